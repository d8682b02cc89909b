/-- every word of the tables that a callee may take over -/
def gt : List Cond := lw_tbl.filter goodWord
theorem tst_len : lw_tbl.length = 0 := by decide +kernel
theorem tst_gl : gt.length = 0 := by decide +kernel
theorem tst_nest : (lw_tbl.filter (fun w => match w with | .methodLinkNest _ _ _ _ => !goodWord w | _ => false)).length = 0 := by decide +kernel
theorem tst_ao : (lw_tbl.filter (fun w => match w with | .arrayOver _ => !goodWord w | _ => false)).length = 0 := by decide +kernel
theorem tst_sr : (lw_tbl.filter (fun w => match w with | .stringRef _ _ _ => !goodWord w | _ => false)).length = 0 := by decide +kernel
theorem tst_nat : (lw_tbl.filter (fun w => match w with | .native _ => !goodWord w | _ => false)).length = 0 := by decide +kernel
theorem tst_cl : (lw_tbl.filter (fun w => match w with | .classLink _ _ _ => !goodWord w | _ => false)).length = 0 := by decide +kernel
theorem tst_in : (lw_tbl.filter (fun w => match w with | .instantiable _ _ => !goodWord w | _ => false)).length = 0 := by decide +kernel
