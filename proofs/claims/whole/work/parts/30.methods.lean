/-! every method: its name, code, blocks; printed by wip/whole/gen_tab.py -/
def md_Bargain_restsOf : gD := (yX0_restsOf, cX0_restsOf, 6, (some .int), 2, (0, 0), [0, 19, 20, 40, 41, 61, 62, 83, 84, 94, 95, 108, 109, 119, 120], [
  ([(.aload_n 0, []), (.iload_n 1, []), (.iconst 0, []), (.invokestatic 17, [1, 1, 3, 0, 0, 1367]), (.aload_n 0, []), (.iload_n 1, []), (.iconst 2, []), (.invokestatic 17, [1, 1, 3, 0, 0, 1367]), (.if_icmp .lt 7, [1]), (.iconst 1, []), (.goto 4, [2])], 0),
  ([(.iconst 0, [])], 2),
  ([(.istore_n 2, []), (.aload_n 0, []), (.iload_n 1, []), (.iconst 0, []), (.invokestatic 17, [1, 1, 3, 0, 0, 1367]), (.aload_n 0, []), (.iload_n 1, []), (.iconst 2, []), (.invokestatic 17, [1, 1, 3, 0, 0, 1367]), (.if_icmp .le 7, [3]), (.iconst 1, []), (.goto 4, [4])], 0),
  ([(.iconst 0, [])], 4),
  ([(.istore_n 3, []), (.aload_n 0, []), (.iload_n 1, []), (.iconst 1, []), (.invokestatic 17, [1, 1, 3, 0, 0, 1367]), (.aload_n 0, []), (.iload_n 1, []), (.iconst 3, []), (.invokestatic 17, [1, 1, 3, 0, 0, 1367]), (.if_icmp .lt 7, [5]), (.iconst 1, []), (.goto 4, [6])], 0),
  ([(.iconst 0, [])], 6),
  ([(.istore 4, []), (.aload_n 0, []), (.iload_n 1, []), (.iconst 1, []), (.invokestatic 17, [1, 1, 3, 0, 0, 1367]), (.aload_n 0, []), (.iload_n 1, []), (.iconst 3, []), (.invokestatic 17, [1, 1, 3, 0, 0, 1367]), (.if_icmp .le 7, [7]), (.iconst 1, []), (.goto 4, [8])], 0),
  ([(.iconst 0, [])], 8),
  ([(.istore 5, []), (.iload_n 2, []), (.ifCond .eq 7, [9]), (.iconst 1, []), (.goto 4, [10])], 0),
  ([(.iconst 0, [])], 10),
  ([(.iload 4, []), (.ifCond .eq 11, [11]), (.iload_n 3, []), (.ifCond .ne 7, [11]), (.iconst 2, []), (.goto 4, [12])], 0),
  ([(.iconst 0, [])], 12),
  ([(.iadd, []), (.iload 5, []), (.ifCond .eq 7, [13]), (.iconst 0, []), (.goto 4, [14])], 0),
  ([(.iconst 4, [])], 14),
  ([(.iadd, []), (.ireturn, [])], 0)])
def md_Bargain_told : gD := (yX0_told, cX0_told, 3, (some .int), 3, (0, 0), [0], [
  ([(.aload_n 0, []), (.getfield 11, [7, 5, 3, 202]), (.iload_n 1, []), (.iconst 4, []), (.imul, []), (.iload_n 2, []), (.iadd, []), (.iaload, []), (.ireturn, [])], 0)])
def md_Bargain_holdsBy : gD := (yX0_holdsBy, cX0_holdsBy, 7, (some .int), 3, (0, 0), [0, 37, 38, 39, 48, 74, 78], [
  ([(.aload_n 0, []), (.iload_n 1, []), (.iconst 0, []), (.invokestatic 17, [1, 1, 3, 0, 0, 1367]), (.istore_n 3, []), (.aload_n 0, []), (.iload_n 1, []), (.iconst 2, []), (.invokestatic 17, [1, 1, 3, 0, 0, 1367]), (.istore 4, []), (.aload_n 0, []), (.iload_n 1, []), (.iconst 3, []), (.invokestatic 17, [1, 1, 3, 0, 0, 1367]), (.istore 5, []), (.iload 4, []), (.iload_n 3, []), (.if_icmp .gt 13, [3]), (.iload_n 2, []), (.ifCond .eq 7, [1]), (.iconst 1, []), (.goto 4, [2])], 0),
  ([(.iconst 0, [])], 2),
  ([(.ireturn, [])], 0),
  ([(.iload_n 3, []), (.iload 5, []), (.if_icmp .gt 6, [4]), (.bipush (-2), []), (.ireturn, [])], 0),
  ([(.iload 4, []), (.iload_n 3, []), (.isub, []), (.iload 4, []), (.iload 5, []), (.isub, []), (.invokestatic 21, [1, 3, 2, 0, 0, 1377]), (.istore 6, []), (.iload_n 2, []), (.ifCond .eq 11, [5]), (.iload 4, []), (.iload 5, []), (.isub, []), (.goto 7, [6])], 0),
  ([(.iload 4, []), (.iload_n 3, []), (.isub, [])], 6),
  ([(.iload 6, []), (.idiv, []), (.ireturn, [])], 0)])
def md_Bargain_commonDivisor : gD := (yX0_commonDivisor, cX0_commonDivisor, 3, (some .int), 2, (0, 0), [0, 6, 25, 31], [
  ([(.iload_n 0, []), (.iload_n 1, []), (.invokestatic 25, [6, 1380]), (.istore_n 2, [])], 1),
  ([(.iload_n 2, []), (.iconst 1, []), (.if_icmp .le 23, [3]), (.iload_n 0, []), (.iload_n 2, []), (.irem, []), (.ifCond .ne 11, [2]), (.iload_n 1, []), (.iload_n 2, []), (.irem, []), (.ifCond .ne 5, [2]), (.iload_n 2, []), (.ireturn, [])], 0),
  ([(.iinc 2 (-1), []), (.goto (-22), [1])], 0),
  ([(.iconst 1, []), (.ireturn, [])], 0)])
def md_Bargain_isRule : gD := (yX0_isRule, cX0_isRule, 1, (some .boolean), 1, (0, 0), [0, 13, 14], [
  ([(.iload_n 0, []), (.ifCond .lt 12, [1]), (.iload_n 0, []), (.iconst 5, []), (.if_icmp .ge 7, [1]), (.iconst 1, []), (.goto 4, [2])], 0),
  ([(.iconst 0, [])], 2),
  ([(.ireturn, [])], 0)])
def md_Bargain_isLength : gD := (yX0_isLength, cX0_isLength, 1, (some .boolean), 1, (0, 0), [0, 15, 16], [
  ([(.iload_n 0, []), (.iconst 1, []), (.if_icmp .lt 13, [1]), (.iload_n 0, []), (.bipush 100, []), (.if_icmp .gt 7, [1]), (.iconst 1, []), (.goto 4, [2])], 0),
  ([(.iconst 0, [])], 2),
  ([(.ireturn, [])], 0)])
def md_Bargain_played : gD := (yX0_played, cX0_played, 13, (some .int), 5, (0, 0), [0, 18, 67, 68, 77, 90, 91, 97, 119, 120, 136, 137, 145], [
  ([(.iconst 0, []), (.istore 5, []), (.iconst 1, []), (.istore 6, []), (.iconst 1, []), (.istore 7, []), (.iconst 1, []), (.istore 8, []), (.iconst 1, []), (.istore 9, []), (.iconst 0, []), (.istore 10, [])], 1),
  ([(.iload 10, []), (.iload 4, []), (.if_icmp .ge 123, [12]), (.iload_n 2, []), (.iload 10, []), (.iload 7, []), (.iload 9, []), (.invokestatic 30, [1, 7, 4, 0, 0, 1394]), (.istore 11, []), (.iload_n 3, []), (.iload 10, []), (.iload 6, []), (.iload 8, []), (.invokestatic 30, [1, 7, 4, 0, 0, 1394]), (.istore 12, []), (.iload 11, []), (.ifCond .eq 26, [4]), (.iload 5, []), (.aload_n 0, []), (.iload_n 1, []), (.iload 12, []), (.ifCond .eq 7, [2]), (.iconst 0, []), (.goto 4, [3])], 0),
  ([(.iconst 1, [])], 3),
  ([(.invokestatic 17, [1, 1, 3, 0, 0, 1367]), (.iadd, []), (.istore 5, []), (.goto 23, [7])], 0),
  ([(.iload 5, []), (.aload_n 0, []), (.iload_n 1, []), (.iload 12, []), (.ifCond .eq 7, [5]), (.iconst 2, []), (.goto 4, [6])], 0),
  ([(.iconst 3, [])], 6),
  ([(.invokestatic 17, [1, 1, 3, 0, 0, 1367]), (.iadd, []), (.istore 5, [])], 7),
  ([(.iload 11, []), (.istore 6, []), (.iload 12, []), (.istore 7, []), (.iload 8, []), (.ifCond .eq 12, [8]), (.iload 11, []), (.ifCond .eq 7, [8]), (.iconst 1, []), (.goto 4, [9])], 0),
  ([(.iconst 0, [])], 9),
  ([(.istore 8, []), (.iload 9, []), (.ifCond .eq 12, [10]), (.iload 12, []), (.ifCond .eq 7, [10]), (.iconst 1, []), (.goto 4, [11])], 0),
  ([(.iconst 0, [])], 11),
  ([(.istore 9, []), (.iinc 10 1, []), (.goto (-124), [1])], 0),
  ([(.iload 5, []), (.ireturn, [])], 0)])
def md_Bargain_keepsBy : gD := (yX0_keepsBy, cX0_keepsBy, 4, (some .boolean), 4, (0, 0), [0, 32, 34, 36, 38, 40, 50, 51], [
  ([(.iload_n 0, []), (.tableswitch 39 0 3 #[31, 33, 35, 37], [5, 1, 2, 3, 4])], 0),
  ([(.iconst 1, []), (.ireturn, [])], 0),
  ([(.iconst 0, []), (.ireturn, [])], 0),
  ([(.iload_n 2, []), (.ireturn, [])], 0),
  ([(.iload_n 3, []), (.ireturn, [])], 0),
  ([(.iload_n 1, []), (.iconst 2, []), (.irem, []), (.ifCond .ne 7, [6]), (.iconst 1, []), (.goto 4, [7])], 0),
  ([(.iconst 0, [])], 7),
  ([(.ireturn, [])], 0)])
def md_Bargain_mostByRule : gD := (yX0_mostByRule, cX0_mostByRule, 8, (some .int), 3, (0, 0), [0, 8, 20, 47, 60, 66], [
  ([(.iconst (-1), []), (.istore_n 3, []), (.iconst 0, []), (.istore 4, []), (.iconst 0, []), (.istore 5, [])], 1),
  ([(.iload 5, []), (.iconst 5, []), (.if_icmp .ge 55, [5]), (.iconst 0, []), (.istore 6, []), (.iconst 0, []), (.istore 7, [])], 2),
  ([(.iload 7, []), (.iconst 5, []), (.if_icmp .ge 24, [3]), (.iload 6, []), (.aload_n 0, []), (.iload_n 1, []), (.iload 5, []), (.iload 7, []), (.iload_n 2, []), (.invokestatic 34, [1, 6, 5, 0, 0, 1404]), (.iadd, []), (.istore 6, []), (.iinc 7 1, []), (.goto (-24), [2])], 0),
  ([(.iload 6, []), (.iload_n 3, []), (.if_icmp .le 10, [4]), (.iload 6, []), (.istore_n 3, []), (.iload 5, []), (.istore 4, [])], 4),
  ([(.iinc 5 1, []), (.goto (-55), [1])], 0),
  ([(.iload 4, []), (.ireturn, [])], 0)])
def md_Bridge_init : gD := (yX1_init, cX1_init, 1, none, 1, (3, 16), [0], [
  ([(.aload_n 0, []), (.invokespecial 3, [4, 539]), (.aload_n 0, []), (.bipush 10, []), (.newarray .int, [1]), (.putfield 9, [0, 0, 3, 540]), (.aload_n 0, []), (.iconst 0, []), (.putfield 15, [0, 1, 0, 541]), (.aload_n 0, []), (.iconst 3, []), (.newarray .int, [1]), (.putfield 19, [0, 2, 3, 542]), (.aload_n 0, []), (.iconst 3, []), (.newarray .int, [1]), (.putfield 22, [0, 3, 3, 543]), (.aload_n 0, []), (.iconst 0, []), (.putfield 25, [0, 4, 0, 544]), (.aload_n 0, []), (.iconst 0, []), (.putfield 28, [0, 5, 0, 545]), (.aload_n 0, []), (.iconst 0, []), (.putfield 31, [0, 6, 0, 546]), (.aload_n 0, []), (.iconst 0, []), (.putfield 34, [0, 7, 0, 548]), (.aload_n 0, []), (.bipush (-2), []), (.putfield 37, [0, 8, 0, 550]), (.return_, [])], 0)])
def md_Bridge_leastMinutes : gD := (yX1_leastMinutes, cX1_leastMinutes, 5, (some .int), 3, (0, 0), [0, 12, 42], [
  ([(.aload_n 0, []), (.aload_n 1, []), (.aload_n 2, []), (.iconst 2, []), (.invokevirtual 75, [0, 11, 3, 0, 0, 0, 1302]), (.iconst 0, []), (.istore_n 3, []), (.iconst 0, []), (.istore 4, [])], 1),
  ([(.iload 4, []), (.aload_n 0, []), (.getfield 15, [0, 1, 0, 541]), (.if_icmp .ge 24, [2]), (.iload_n 3, []), (.aload_n 1, []), (.getfield 60, [7, 11, 3, 227]), (.aload_n 0, []), (.getfield 9, [0, 0, 3, 540]), (.iload 4, []), (.iaload, []), (.iaload, []), (.iadd, []), (.istore_n 3, []), (.iinc 4 1, []), (.goto (-27), [1])], 0),
  ([(.aload_n 1, []), (.invokestatic 91, [1, 13, 1, 0, 0, 1310]), (.istore 4, []), (.aload_n 0, []), (.iload_n 3, []), (.iload 4, []), (.iadd, []), (.iconst 1, []), (.isub, []), (.iload 4, []), (.idiv, []), (.putfield 28, [0, 5, 0, 545]), (.aload_n 0, []), (.iload_n 3, []), (.aload_n 1, []), (.getfield 63, [7, 0, 3, 182]), (.iconst 3, []), (.iaload, []), (.iadd, []), (.iconst 1, []), (.iadd, []), (.putfield 25, [0, 4, 0, 544]), (.aload_n 0, []), (.aload_n 1, []), (.iconst 0, []), (.invokevirtual 94, [0, 14, 2, 0, 0, 0, 1315]), (.aload_n 0, []), (.getfield 25, [0, 4, 0, 544]), (.ireturn, [])], 0)])
def md_Bridge_lineUp : gD := (yX1_lineUp, cX1_lineUp, 6, none, 4, (0, 0), [0, 8, 33, 79, 98, 104], [
  ([(.aload_n 0, []), (.iconst 0, []), (.putfield 15, [0, 1, 0, 541]), (.iconst 0, []), (.istore 4, [])], 1),
  ([(.iload 4, []), (.aload_n 1, []), (.getfield 40, [7, 8, 0, 213]), (.if_icmp .ge 90, [5]), (.aload_n 2, []), (.getfield 45, [6, 0, 3, 357]), (.iload 4, []), (.iaload, []), (.ifCond .lt 74, [4]), (.aload_n 0, []), (.getfield 15, [0, 1, 0, 541]), (.istore 5, [])], 2),
  ([(.iload 5, []), (.ifCond .le 44, [3]), (.aload_n 1, []), (.iload 4, []), (.aload_n 0, []), (.getfield 9, [0, 0, 3, 540]), (.iload 5, []), (.iconst 1, []), (.isub, []), (.iaload, []), (.iload_n 3, []), (.invokestatic 50, [1, 12, 4, 0, 0, 1306]), (.ifCond .eq 25, [3]), (.aload_n 0, []), (.getfield 9, [0, 0, 3, 540]), (.iload 5, []), (.aload_n 0, []), (.getfield 9, [0, 0, 3, 540]), (.iload 5, []), (.iconst 1, []), (.isub, []), (.iaload, []), (.iastore, []), (.iinc 5 (-1), []), (.goto (-43), [2])], 0),
  ([(.aload_n 0, []), (.getfield 9, [0, 0, 3, 540]), (.iload 5, []), (.iload 4, []), (.iastore, []), (.aload_n 0, []), (.dup, []), (.getfield 15, [0, 1, 0, 541]), (.iconst 1, []), (.iadd, []), (.putfield 15, [0, 1, 0, 541])], 4),
  ([(.iinc 4 1, []), (.goto (-93), [1])], 0),
  ([(.aload_n 0, []), (.getfield 19, [0, 2, 3, 542]), (.iconst 0, []), (.invokestatic 54, [1, 342, 2, 0, 0, 1309]), (.aload_n 0, []), (.getfield 22, [0, 3, 3, 543]), (.iconst 0, []), (.invokestatic 54, [1, 342, 2, 0, 0, 1309]), (.return_, [])], 0)])
def md_Bridge_goesAhead : gD := (yX1_goesAhead, cX1_goesAhead, 4, (some .boolean), 4, (0, 0), [0, 24, 25, 26, 50, 51], [
  ([(.iload_n 3, []), (.iconst 1, []), (.if_icmp .ne 24, [3]), (.aload_n 0, []), (.getfield 60, [7, 11, 3, 227]), (.iload_n 1, []), (.iaload, []), (.aload_n 0, []), (.getfield 60, [7, 11, 3, 227]), (.iload_n 2, []), (.iaload, []), (.if_icmp .ge 7, [1]), (.iconst 1, []), (.goto 4, [2])], 0),
  ([(.iconst 0, [])], 2),
  ([(.ireturn, [])], 0),
  ([(.iload_n 3, []), (.iconst 2, []), (.if_icmp .ne 22, [4]), (.aload_n 0, []), (.getfield 60, [7, 11, 3, 227]), (.iload_n 1, []), (.iaload, []), (.aload_n 0, []), (.getfield 60, [7, 11, 3, 227]), (.iload_n 2, []), (.iaload, []), (.if_icmp .le 7, [4]), (.iconst 1, []), (.goto 4, [5])], 0),
  ([(.iconst 0, [])], 5),
  ([(.ireturn, [])], 0)])
def md_Bridge_lanesOf : gD := (yX1_lanesOf, cX1_lanesOf, 1, (some .int), 1, (0, 0), [0], [
  ([(.iconst 1, []), (.iconst 3, []), (.aload_n 0, []), (.getfield 63, [7, 0, 3, 182]), (.iconst 2, []), (.iaload, []), (.invokestatic 66, [6, 1313]), (.invokestatic 72, [5, 1314]), (.ireturn, [])], 0)])
def md_Bridge_spread : gD := (yX1_spread, cX1_spread, 6, none, 3, (0, 0), [0, 14, 24, 34, 127, 152, 158], [
  ([(.iload_n 2, []), (.aload_n 0, []), (.getfield 15, [0, 1, 0, 541]), (.if_icmp .ge 9, [1]), (.iload_n 2, []), (.bipush 10, []), (.if_icmp .lt 13, [2])], 1),
  ([(.aload_n 0, []), (.aload_n 0, []), (.aload_n 1, []), (.invokevirtual 97, [0, 15, 1, 0, 0, 0, 1319]), (.putfield 25, [0, 4, 0, 544]), (.return_, [])], 0),
  ([(.aload_n 0, []), (.getfield 9, [0, 0, 3, 540]), (.iload_n 2, []), (.iaload, []), (.istore_n 3, []), (.iconst 0, []), (.istore 4, [])], 3),
  ([(.iload 4, []), (.aload_n 1, []), (.invokestatic 91, [1, 13, 1, 0, 0, 1310]), (.if_icmp .ge 118, [6]), (.aload_n 0, []), (.getfield 25, [0, 4, 0, 544]), (.aload_n 0, []), (.getfield 28, [0, 5, 0, 545]), (.if_icmp .le 107, [6]), (.aload_n 0, []), (.iload 4, []), (.invokevirtual 100, [0, 17, 1, 0, 0, 0, 1327]), (.ifCond .ne 92, [5]), (.aload_n 0, []), (.getfield 22, [0, 3, 3, 543]), (.iload 4, []), (.iaload, []), (.istore 5, []), (.aload_n 0, []), (.getfield 19, [0, 2, 3, 542]), (.iload 4, []), (.dup2, []), (.iaload, []), (.aload_n 1, []), (.getfield 60, [7, 11, 3, 227]), (.iload_n 3, []), (.iaload, []), (.iadd, []), (.iastore, []), (.aload_n 0, []), (.getfield 22, [0, 3, 3, 543]), (.iload 4, []), (.dup2, []), (.iaload, []), (.iconst 1, []), (.aload_n 1, []), (.iload_n 3, []), (.invokevirtual 87, [0, 130, 1, 7, 0, 0, 1331]), (.ishl, []), (.ior, []), (.iastore, []), (.aload_n 0, []), (.aload_n 1, []), (.iload 4, []), (.invokevirtual 104, [0, 16, 2, 0, 0, 0, 1323]), (.aload_n 0, []), (.getfield 25, [0, 4, 0, 544]), (.if_icmp .ge 11, [4]), (.aload_n 0, []), (.aload_n 1, []), (.iload_n 2, []), (.iconst 1, []), (.iadd, []), (.invokevirtual 94, [0, 14, 2, 0, 0, 0, 1315])], 4),
  ([(.aload_n 0, []), (.getfield 19, [0, 2, 3, 542]), (.iload 4, []), (.dup2, []), (.iaload, []), (.aload_n 1, []), (.getfield 60, [7, 11, 3, 227]), (.iload_n 3, []), (.iaload, []), (.isub, []), (.iastore, []), (.aload_n 0, []), (.getfield 22, [0, 3, 3, 543]), (.iload 4, []), (.iload 5, []), (.iastore, [])], 5),
  ([(.iinc 4 1, []), (.goto (-121), [3])], 0),
  ([(.return_, [])], 0)])
def md_Bridge_longest : gD := (yX1_longest, cX1_longest, 4, (some .int), 2, (0, 0), [0, 4, 29], [
  ([(.iconst 0, []), (.istore_n 2, []), (.iconst 0, []), (.istore_n 3, [])], 1),
  ([(.iload_n 3, []), (.aload_n 1, []), (.invokestatic 91, [1, 13, 1, 0, 0, 1310]), (.if_icmp .ge 20, [2]), (.iload_n 2, []), (.aload_n 0, []), (.aload_n 1, []), (.iload_n 3, []), (.invokevirtual 104, [0, 16, 2, 0, 0, 0, 1323]), (.invokestatic 72, [5, 1314]), (.istore_n 2, []), (.iinc 3 1, []), (.goto (-22), [1])], 0),
  ([(.iload_n 2, []), (.ireturn, [])], 0)])
def md_Bridge_laneMinutes : gD := (yX1_laneMinutes, cX1_laneMinutes, 3, (some .int), 3, (0, 0), [0, 25, 26], [
  ([(.aload_n 0, []), (.getfield 19, [0, 2, 3, 542]), (.iload_n 2, []), (.iaload, []), (.aload_n 0, []), (.getfield 22, [0, 3, 3, 543]), (.iload_n 2, []), (.iaload, []), (.iconst 3, []), (.if_icmp .ne 12, [1]), (.aload_n 1, []), (.getfield 63, [7, 0, 3, 182]), (.iconst 3, []), (.iaload, []), (.goto 4, [2])], 0),
  ([(.iconst 0, [])], 2),
  ([(.iadd, []), (.ireturn, [])], 0)])
def md_Bridge_isLikeEarlier : gD := (yX1_isLikeEarlier, cX1_isLikeEarlier, 3, (some .boolean), 2, (0, 0), [0, 2, 39, 45], [
  ([(.iconst 0, []), (.istore_n 2, [])], 1),
  ([(.iload_n 2, []), (.iload_n 1, []), (.if_icmp .ge 41, [3]), (.aload_n 0, []), (.getfield 19, [0, 2, 3, 542]), (.iload_n 2, []), (.iaload, []), (.aload_n 0, []), (.getfield 19, [0, 2, 3, 542]), (.iload_n 1, []), (.iaload, []), (.if_icmp .ne 20, [2]), (.aload_n 0, []), (.getfield 22, [0, 3, 3, 543]), (.iload_n 2, []), (.iaload, []), (.aload_n 0, []), (.getfield 22, [0, 3, 3, 543]), (.iload_n 1, []), (.iaload, []), (.if_icmp .ne 5, [2]), (.iconst 1, []), (.ireturn, [])], 0),
  ([(.iinc 2 1, []), (.goto (-40), [1])], 0),
  ([(.iconst 0, []), (.ireturn, [])], 0)])
def md_Bridge_walkBy : gD := (yX1_walkBy, cX1_walkBy, 5, none, 4, (0, 0), [0, 26, 53], [
  ([(.aload_n 0, []), (.aload_n 1, []), (.aload_n 2, []), (.iload_n 3, []), (.invokevirtual 75, [0, 11, 3, 0, 0, 0, 1302]), (.aload_n 0, []), (.iconst 0, []), (.putfield 31, [0, 6, 0, 546]), (.aload_n 0, []), (.iconst 0, []), (.putfield 34, [0, 7, 0, 548]), (.aload_n 0, []), (.bipush (-2), []), (.putfield 37, [0, 8, 0, 550]), (.iconst 0, []), (.istore 4, [])], 1),
  ([(.iload 4, []), (.aload_n 0, []), (.getfield 15, [0, 1, 0, 541]), (.if_icmp .ge 21, [2]), (.aload_n 0, []), (.aload_n 1, []), (.aload_n 0, []), (.getfield 9, [0, 0, 3, 540]), (.iload 4, []), (.iaload, []), (.invokevirtual 79, [0, 19, 2, 0, 0, 0, 1344]), (.iinc 4 1, []), (.goto (-24), [1])], 0),
  ([(.return_, [])], 0)])
def md_Bridge_stepOn : gD := (yX1_stepOn, cX1_stepOn, 6, none, 3, (0, 0), [0, 54, 122, 137], [
  ([(.aload_n 0, []), (.aload_n 1, []), (.invokevirtual 83, [0, 20, 1, 0, 0, 0, 1348]), (.istore_n 3, []), (.iconst 1, []), (.aload_n 1, []), (.iload_n 2, []), (.invokevirtual 87, [0, 130, 1, 7, 0, 0, 1331]), (.ishl, []), (.istore 4, []), (.aload_n 0, []), (.getfield 19, [0, 2, 3, 542]), (.iload_n 3, []), (.iaload, []), (.istore 5, []), (.aload_n 0, []), (.getfield 22, [0, 3, 3, 543]), (.iload_n 3, []), (.iaload, []), (.ifCond .eq 25, [1]), (.aload_n 0, []), (.getfield 22, [0, 3, 3, 543]), (.iload_n 3, []), (.iaload, []), (.iload 4, []), (.if_icmp .eq 14, [1]), (.iload 5, []), (.aload_n 1, []), (.getfield 63, [7, 0, 3, 182]), (.iconst 3, []), (.iaload, []), (.iadd, []), (.istore 5, [])], 1),
  ([(.aload_n 0, []), (.getfield 19, [0, 2, 3, 542]), (.iload_n 3, []), (.iload 5, []), (.aload_n 1, []), (.getfield 60, [7, 11, 3, 227]), (.iload_n 2, []), (.iaload, []), (.iadd, []), (.iastore, []), (.aload_n 0, []), (.getfield 22, [0, 3, 3, 543]), (.iload_n 3, []), (.iload 4, []), (.iastore, []), (.aload_n 0, []), (.dup, []), (.getfield 34, [0, 7, 0, 548]), (.iload 5, []), (.iadd, []), (.putfield 34, [0, 7, 0, 548]), (.aload_n 0, []), (.getfield 19, [0, 2, 3, 542]), (.iload_n 3, []), (.iaload, []), (.aload_n 0, []), (.getfield 31, [0, 6, 0, 546]), (.if_icmp .gt 24, [2]), (.aload_n 0, []), (.getfield 19, [0, 2, 3, 542]), (.iload_n 3, []), (.iaload, []), (.aload_n 0, []), (.getfield 31, [0, 6, 0, 546]), (.if_icmp .ne 26, [3]), (.iload_n 2, []), (.aload_n 0, []), (.getfield 37, [0, 8, 0, 550]), (.if_icmp .ge 18, [3])], 2),
  ([(.aload_n 0, []), (.aload_n 0, []), (.getfield 19, [0, 2, 3, 542]), (.iload_n 3, []), (.iaload, []), (.putfield 31, [0, 6, 0, 546]), (.aload_n 0, []), (.iload_n 2, []), (.putfield 37, [0, 8, 0, 550])], 3),
  ([(.return_, [])], 0)])
def md_Bridge_soonestFree : gD := (yX1_soonestFree, cX1_soonestFree, 4, (some .int), 2, (0, 0), [0, 4, 29, 35], [
  ([(.iconst 0, []), (.istore_n 2, []), (.iconst 1, []), (.istore_n 3, [])], 1),
  ([(.iload_n 3, []), (.aload_n 1, []), (.invokestatic 91, [1, 13, 1, 0, 0, 1310]), (.if_icmp .ge 26, [3]), (.aload_n 0, []), (.getfield 19, [0, 2, 3, 542]), (.iload_n 3, []), (.iaload, []), (.aload_n 0, []), (.getfield 19, [0, 2, 3, 542]), (.iload_n 2, []), (.iaload, []), (.if_icmp .ge 5, [2]), (.iload_n 3, []), (.istore_n 2, [])], 2),
  ([(.iinc 3 1, []), (.goto (-28), [1])], 0),
  ([(.iload_n 2, []), (.ireturn, [])], 0)])
def md_Finder_init : gD := (yX2_init, cX2_init, 2, none, 1, (16, 196), [0, 130, 154], [
  ([(.aload_n 0, []), (.invokespecial 3, [4, 424]), (.aload_n 0, []), (.iconst 0, []), (.putfield 11, [1, 0, 0, 444]), (.aload_n 0, []), (.iconst 0, []), (.putfield 15, [1, 1, 1, 445]), (.aload_n 0, []), (.iconst 0, []), (.putfield 19, [1, 2, 1, 446]), (.aload_n 0, []), (.iconst 0, []), (.putfield 22, [1, 3, 0, 447]), (.aload_n 0, []), (.iconst 5, []), (.newarray .int, [1]), (.putfield 25, [1, 4, 3, 448]), (.aload_n 0, []), (.iconst 5, []), (.newarray .int, [1]), (.putfield 29, [1, 5, 3, 449]), (.aload_n 0, []), (.iconst 5, []), (.newarray .int, [1]), (.putfield 32, [1, 6, 3, 450]), (.aload_n 0, []), (.iconst 0, []), (.putfield 35, [1, 7, 0, 451]), (.aload_n 0, []), (.bipush 6, []), (.newarray .int, [1]), (.putfield 38, [1, 8, 3, 452]), (.aload_n 0, []), (.new 41, [5, 425, 426, 150]), (.dup, []), (.invokespecial 43, [3, 93, 0, 0, 0, 5]), (.putfield 44, [1, 9, 3, 453]), (.aload_n 0, []), (.new 41, [5, 425, 426, 150]), (.dup, []), (.invokespecial 43, [3, 93, 0, 0, 0, 5]), (.putfield 48, [1, 10, 3, 454]), (.aload_n 0, []), (.bipush 6, []), (.anewarray 41, [5, 425]), (.putfield 51, [1, 11, 3, 455]), (.aload_n 0, []), (.iconst 5, []), (.newarray .int, [1]), (.putfield 55, [1, 12, 3, 456]), (.aload_n 0, []), (.iconst 0, []), (.putfield 58, [1, 13, 0, 457]), (.aload_n 0, []), (.sipush 130, []), (.newarray .int, [1]), (.putfield 61, [1, 14, 3, 459]), (.aload_n 0, []), (.iconst 0, []), (.putfield 64, [1, 15, 0, 460]), (.aload_n 0, []), (.iconst 0, []), (.putfield 67, [1, 16, 0, 462]), (.aload_n 0, []), (.bipush 10, []), (.newarray .int, [1]), (.putfield 70, [1, 17, 3, 464]), (.iconst 0, []), (.istore_n 1, [])], 1),
  ([(.iload_n 1, []), (.iconst 5, []), (.if_icmp .gt 22, [2]), (.aload_n 0, []), (.getfield 51, [1, 11, 3, 455]), (.iload_n 1, []), (.new 41, [5, 425, 426, 150]), (.dup, []), (.invokespecial 43, [3, 93, 0, 0, 0, 5]), (.aastore, []), (.iinc 1 1, []), (.goto (-21), [1])], 0),
  ([(.return_, [])], 0)])
def md_Finder_forget : gD := (yX2_forget, cX2_forget, 1, none, 1, (0, 0), [0], [
  ([(.aload_n 0, []), (.iconst 0, []), (.putfield 15, [1, 1, 1, 445]), (.aload_n 0, []), (.iconst 0, []), (.putfield 19, [1, 2, 1, 446]), (.return_, [])], 0)])
def md_Finder_countRows : gD := (yX2_countRows, cX2_countRows, 4, none, 4, (0, 0), [0, 24], [
  ([(.aload_n 0, []), (.getfield 15, [1, 1, 1, 445]), (.ifCond .ne 20, [1]), (.aload_n 0, []), (.aload_n 1, []), (.iload_n 3, []), (.invokevirtual 73, [0, 24, 2, 1, 0, 0, 1040]), (.aload_n 0, []), (.aload_n 1, []), (.aload_n 2, []), (.invokevirtual 77, [0, 25, 2, 1, 0, 0, 1046]), (.aload_n 0, []), (.aload_n 1, []), (.invokevirtual 81, [0, 26, 1, 1, 0, 0, 1053])], 1),
  ([(.return_, [])], 0)])
def md_Finder_gather : gD := (yX2_gather, cX2_gather, 4, none, 3, (0, 0), [0, 20, 65, 71], [
  ([(.aload_n 0, []), (.iconst 0, []), (.putfield 22, [1, 3, 0, 447]), (.aload_n 0, []), (.iconst 0, []), (.putfield 35, [1, 7, 0, 451]), (.aload_n 0, []), (.getfield 38, [1, 8, 3, 452]), (.iconst 0, []), (.invokestatic 88, [1, 342, 2, 0, 0, 1044]), (.iconst 0, []), (.istore_n 3, [])], 1),
  ([(.iload_n 3, []), (.aload_n 1, []), (.getfield 112, [7, 8, 0, 217]), (.if_icmp .ge 46, [3]), (.aload_n 0, []), (.getfield 22, [1, 3, 0, 447]), (.iconst 5, []), (.if_icmp .ge 38, [3]), (.aload_n 1, []), (.iload_n 3, []), (.invokevirtual 117, [0, 130, 1, 7, 0, 0, 1045]), (.iload_n 2, []), (.if_icmp .ne 23, [2]), (.aload_n 0, []), (.getfield 25, [1, 4, 3, 448]), (.aload_n 0, []), (.getfield 22, [1, 3, 0, 447]), (.iload_n 3, []), (.iastore, []), (.aload_n 0, []), (.dup, []), (.getfield 22, [1, 3, 0, 447]), (.iconst 1, []), (.iadd, []), (.putfield 22, [1, 3, 0, 447])], 2),
  ([(.iinc 3 1, []), (.goto (-48), [1])], 0),
  ([(.return_, [])], 0)])
def md_Finder_openRows : gD := (yX2_openRows, cX2_openRows, 5, none, 3, (0, 0), [0, 2, 22, 92, 98, 104], [
  ([(.iconst 0, []), (.istore_n 3, [])], 1),
  ([(.iload_n 3, []), (.aload_n 0, []), (.getfield 22, [1, 3, 0, 447]), (.if_icmp .ge 97, [5]), (.aload_n 0, []), (.getfield 29, [1, 5, 3, 449]), (.iload_n 3, []), (.sipush 4096, []), (.iastore, []), (.iconst 0, []), (.istore 4, [])], 2),
  ([(.iload 4, []), (.aload_n 1, []), (.getfield 139, [7, 6, 0, 205]), (.if_icmp .ge 70, [4]), (.aload_n 1, []), (.iload 4, []), (.invokevirtual 142, [0, 136, 1, 7, 0, 0, 1050]), (.aload_n 1, []), (.aload_n 0, []), (.getfield 25, [1, 4, 3, 448]), (.iload_n 3, []), (.iaload, []), (.invokevirtual 117, [0, 130, 1, 7, 0, 0, 1045]), (.if_icmp .eq 45, [3]), (.aload_n 2, []), (.aload_n 0, []), (.getfield 25, [1, 4, 3, 448]), (.iload_n 3, []), (.iaload, []), (.invokevirtual 145, [0, 100, 1, 6, 0, 0, 1051]), (.ifCond .ne 32, [3]), (.aload_n 2, []), (.aload_n 1, []), (.aload_n 0, []), (.getfield 25, [1, 4, 3, 448]), (.iload_n 3, []), (.iaload, []), (.iload 4, []), (.invokevirtual 149, [0, 103, 3, 6, 0, 0, 1052]), (.ifCond .ne 16, [3]), (.aload_n 0, []), (.getfield 29, [1, 5, 3, 449]), (.iload_n 3, []), (.dup2, []), (.iaload, []), (.iconst 1, []), (.iload 4, []), (.ishl, []), (.ior, []), (.iastore, [])], 3),
  ([(.iinc 4 1, []), (.goto (-73), [2])], 0),
  ([(.iinc 3 1, []), (.goto (-99), [1])], 0),
  ([(.return_, [])], 0)])
def md_Finder_countAll : gD := (yX2_countAll, cX2_countAll, 2, none, 2, (0, 0), [0], [
  ([(.aload_n 0, []), (.iconst 0, []), (.putfield 11, [1, 0, 0, 444]), (.aload_n 0, []), (.iconst 0, []), (.putfield 58, [1, 13, 0, 457]), (.aload_n 0, []), (.getfield 61, [1, 14, 3, 459]), (.iconst 0, []), (.invokestatic 88, [1, 342, 2, 0, 0, 1044]), (.aload_n 0, []), (.aload_n 1, []), (.iconst 0, []), (.invokevirtual 94, [0, 27, 2, 1, 0, 0, 1057]), (.aload_n 0, []), (.iconst 1, []), (.putfield 15, [1, 1, 1, 445]), (.return_, [])], 0)])
def md_Finder_fill : gD := (yX2_fill, cX2_fill, 5, none, 3, (0, 0), [0, 33, 46, 52, 69, 95, 101, 157], [
  ([(.aload_n 0, []), (.getfield 11, [1, 0, 0, 444]), (.iconst 1, []), (.if_icmp .ne 28, [1]), (.aload_n 0, []), (.getfield 44, [1, 9, 3, 453]), (.aload_n 0, []), (.getfield 51, [1, 11, 3, 455]), (.iload_n 2, []), (.iconst 5, []), (.invokestatic 189, [6, 1061]), (.aaload, []), (.aload_n 0, []), (.getfield 48, [1, 10, 3, 454]), (.invokevirtual 192, [0, 94, 2, 5, 0, 0, 1062]), (.ifCond .ne 4, [1]), (.return_, [])], 0),
  ([(.iload_n 2, []), (.aload_n 0, []), (.getfield 22, [1, 3, 0, 447]), (.if_icmp .ge 8, [2]), (.iload_n 2, []), (.iconst 5, []), (.if_icmp .lt 9, [3])], 2),
  ([(.aload_n 0, []), (.aload_n 1, []), (.invokevirtual 196, [0, 28, 1, 1, 0, 0, 1066]), (.return_, [])], 0),
  ([(.aload_n 0, []), (.getfield 29, [1, 5, 3, 449]), (.iload_n 2, []), (.iaload, []), (.aload_n 0, []), (.getfield 35, [1, 7, 0, 451]), (.iconst (-1), []), (.ixor, []), (.iand, []), (.istore_n 3, []), (.iconst 0, []), (.istore 4, [])], 4),
  ([(.iload 4, []), (.aload_n 1, []), (.getfield 139, [7, 6, 0, 205]), (.if_icmp .ge 26, [6]), (.iload_n 3, []), (.iload 4, []), (.ishr, []), (.iconst 1, []), (.iand, []), (.ifCond .eq 11, [5]), (.aload_n 0, []), (.aload_n 1, []), (.iload_n 2, []), (.iload 4, []), (.invokevirtual 199, [0, 30, 3, 1, 0, 0, 1078])], 5),
  ([(.iinc 4 1, []), (.goto (-29), [4])], 0),
  ([(.iload_n 3, []), (.bipush 12, []), (.ishr, []), (.iconst 1, []), (.iand, []), (.ifCond .eq 50, [7]), (.aload_n 0, []), (.getfield 32, [1, 6, 3, 450]), (.iload_n 2, []), (.bipush 12, []), (.iastore, []), (.aload_n 0, []), (.getfield 44, [1, 9, 3, 453]), (.iconst 1, []), (.aload_n 0, []), (.getfield 55, [1, 12, 3, 456]), (.iload_n 2, []), (.iaload, []), (.iconst 0, []), (.invokevirtual 173, [0, 96, 3, 5, 0, 0, 1087]), (.aload_n 0, []), (.aload_n 1, []), (.iload_n 2, []), (.iconst 1, []), (.iadd, []), (.invokevirtual 94, [0, 27, 2, 1, 0, 0, 1057]), (.aload_n 0, []), (.getfield 44, [1, 9, 3, 453]), (.iconst (-1), []), (.aload_n 0, []), (.getfield 55, [1, 12, 3, 456]), (.iload_n 2, []), (.iaload, []), (.ineg, []), (.iconst 0, []), (.invokevirtual 173, [0, 96, 3, 5, 0, 0, 1087])], 7),
  ([(.return_, [])], 0)])
def md_Finder_take : gD := (yX2_take, cX2_take, 3, none, 2, (0, 0), [0, 9, 30, 64, 70, 77, 78, 90, 129], [
  ([(.aload_n 0, []), (.aload_n 1, []), (.invokevirtual 212, [0, 29, 1, 1, 0, 0, 1070]), (.ifCond .ne 4, [1]), (.return_, [])], 0),
  ([(.aload_n 0, []), (.getfield 11, [1, 0, 0, 444]), (.iconst 1, []), (.if_icmp .ne 64, [6]), (.aload_n 0, []), (.getfield 48, [1, 10, 3, 454]), (.aload_n 0, []), (.getfield 44, [1, 9, 3, 453]), (.invokevirtual 169, [0, 95, 1, 5, 0, 0, 1074]), (.iconst 0, []), (.istore_n 2, [])], 2),
  ([(.iload_n 2, []), (.aload_n 0, []), (.getfield 22, [1, 3, 0, 447]), (.if_icmp .ge 42, [5]), (.aload_n 0, []), (.getfield 70, [1, 17, 3, 464]), (.aload_n 0, []), (.getfield 25, [1, 4, 3, 448]), (.iload_n 2, []), (.iaload, []), (.aload_n 0, []), (.getfield 32, [1, 6, 3, 450]), (.iload_n 2, []), (.iaload, []), (.bipush 12, []), (.if_icmp .ne 8, [3]), (.bipush (-2), []), (.goto 9, [4])], 0),
  ([(.aload_n 0, []), (.getfield 32, [1, 6, 3, 450]), (.iload_n 2, []), (.iaload, [])], 4),
  ([(.iastore, []), (.iinc 2 1, []), (.goto (-44), [2])], 0),
  ([(.return_, [])], 0),
  ([(.aload_n 0, []), (.dup, []), (.getfield 58, [1, 13, 0, 457]), (.iconst 1, []), (.iadd, []), (.putfield 58, [1, 13, 0, 457]), (.iconst 0, []), (.istore_n 2, [])], 7),
  ([(.iload_n 2, []), (.aload_n 0, []), (.getfield 22, [1, 3, 0, 447]), (.if_icmp .ge 34, [8]), (.aload_n 0, []), (.getfield 61, [1, 14, 3, 459]), (.aload_n 0, []), (.getfield 25, [1, 4, 3, 448]), (.iload_n 2, []), (.iaload, []), (.bipush 13, []), (.imul, []), (.aload_n 0, []), (.getfield 32, [1, 6, 3, 450]), (.iload_n 2, []), (.iaload, []), (.iadd, []), (.dup2, []), (.iaload, []), (.iconst 1, []), (.iadd, []), (.iastore, []), (.iinc 2 1, []), (.goto (-36), [7])], 0),
  ([(.return_, [])], 0)])
def md_Finder_childrenMinded : gD := (yX2_childrenMinded, cX2_childrenMinded, 4, (some .boolean), 2, (0, 0), [0, 2, 66, 72], [
  ([(.iconst 0, []), (.istore_n 2, [])], 1),
  ([(.iload_n 2, []), (.aload_n 0, []), (.getfield 22, [1, 3, 0, 447]), (.if_icmp .ge 65, [3]), (.aload_n 0, []), (.getfield 25, [1, 4, 3, 448]), (.iload_n 2, []), (.iaload, []), (.istore_n 3, []), (.aload_n 1, []), (.getfield 162, [7, 9, 3, 222]), (.iload_n 3, []), (.iaload, []), (.iconst 3, []), (.if_icmp .ne 42, [2]), (.aload_n 0, []), (.getfield 32, [1, 6, 3, 450]), (.iload_n 2, []), (.iaload, []), (.bipush 12, []), (.if_icmp .eq 31, [2]), (.aload_n 0, []), (.getfield 38, [1, 8, 3, 452]), (.aload_n 1, []), (.getfield 156, [7, 7, 3, 211]), (.aload_n 0, []), (.getfield 32, [1, 6, 3, 450]), (.iload_n 2, []), (.iaload, []), (.iaload, []), (.iaload, []), (.aload_n 1, []), (.getfield 165, [7, 15, 3, 242]), (.iload_n 3, []), (.iaload, []), (.iand, []), (.ifCond .ne 5, [2]), (.iconst 0, []), (.ireturn, [])], 0),
  ([(.iinc 2 1, []), (.goto (-67), [1])], 0),
  ([(.iconst 1, []), (.ireturn, [])], 0)])
def md_Finder_fillBed : gD := (yX2_fillBed, cX2_fillBed, 7, none, 4, (0, 0), [0, 53, 54], [
  ([(.aload_n 0, []), (.getfield 25, [1, 4, 3, 448]), (.iload_n 2, []), (.iaload, []), (.istore 4, []), (.aload_n 1, []), (.getfield 156, [7, 7, 3, 211]), (.iload_n 3, []), (.iaload, []), (.istore 5, []), (.aload_n 0, []), (.getfield 38, [1, 8, 3, 452]), (.iload 5, []), (.iaload, []), (.aload_n 1, []), (.getfield 203, [7, 13, 3, 235]), (.iload 4, []), (.iaload, []), (.aload_n 1, []), (.getfield 206, [7, 14, 3, 239]), (.iload 4, []), (.iaload, []), (.ior, []), (.iand, []), (.ifCond .ne 14, [1]), (.aload_n 0, []), (.aload_n 1, []), (.iload_n 2, []), (.iload 5, []), (.invokevirtual 209, [0, 31, 3, 1, 0, 0, 1082]), (.ifCond .eq 4, [2])], 1),
  ([(.return_, [])], 0),
  ([(.aload_n 1, []), (.iload 4, []), (.iload 5, []), (.invokevirtual 180, [0, 133, 2, 7, 0, 0, 1086]), (.istore 6, []), (.aload_n 0, []), (.getfield 32, [1, 6, 3, 450]), (.iload_n 2, []), (.iload_n 3, []), (.iastore, []), (.aload_n 0, []), (.dup, []), (.getfield 35, [1, 7, 0, 451]), (.iconst 1, []), (.iload_n 3, []), (.ishl, []), (.ior, []), (.putfield 35, [1, 7, 0, 451]), (.aload_n 0, []), (.getfield 38, [1, 8, 3, 452]), (.iload 5, []), (.dup2, []), (.iaload, []), (.iconst 1, []), (.iload 4, []), (.ishl, []), (.ior, []), (.iastore, []), (.aload_n 0, []), (.getfield 44, [1, 9, 3, 453]), (.iconst 0, []), (.iconst 0, []), (.iload 6, []), (.invokevirtual 173, [0, 96, 3, 5, 0, 0, 1087]), (.aload_n 0, []), (.aload_n 1, []), (.iload_n 2, []), (.iconst 1, []), (.iadd, []), (.invokevirtual 94, [0, 27, 2, 1, 0, 0, 1057]), (.aload_n 0, []), (.getfield 44, [1, 9, 3, 453]), (.iconst 0, []), (.iconst 0, []), (.iload 6, []), (.ineg, []), (.invokevirtual 173, [0, 96, 3, 5, 0, 0, 1087]), (.aload_n 0, []), (.getfield 38, [1, 8, 3, 452]), (.iload 5, []), (.dup2, []), (.iaload, []), (.iconst 1, []), (.iload 4, []), (.ishl, []), (.iconst (-1), []), (.ixor, []), (.iand, []), (.iastore, []), (.aload_n 0, []), (.dup, []), (.getfield 35, [1, 7, 0, 451]), (.iconst 1, []), (.iload_n 3, []), (.ishl, []), (.iconst (-1), []), (.ixor, []), (.iand, []), (.putfield 35, [1, 7, 0, 451]), (.return_, [])], 0)])
def md_Finder_isLeftAlone : gD := (yX2_isLeftAlone, cX2_isLeftAlone, 6, (some .boolean), 4, (0, 0), [0, 17, 30, 59, 80, 81], [
  ([(.aload_n 1, []), (.getfield 162, [7, 9, 3, 222]), (.aload_n 0, []), (.getfield 25, [1, 4, 3, 448]), (.iload_n 2, []), (.iaload, []), (.iaload, []), (.iconst 3, []), (.if_icmp .eq 5, [1]), (.iconst 0, []), (.ireturn, [])], 0),
  ([(.aload_n 0, []), (.getfield 38, [1, 8, 3, 452]), (.iload_n 3, []), (.iaload, []), (.istore 4, []), (.iload_n 2, []), (.iconst 1, []), (.iadd, []), (.istore 5, [])], 2),
  ([(.iload 5, []), (.aload_n 0, []), (.getfield 22, [1, 3, 0, 447]), (.if_icmp .ge 23, [3]), (.iload 4, []), (.iconst 1, []), (.aload_n 0, []), (.getfield 25, [1, 4, 3, 448]), (.iload 5, []), (.iaload, []), (.ishl, []), (.ior, []), (.istore 4, []), (.iinc 5 1, []), (.goto (-26), [2])], 0),
  ([(.iload 4, []), (.aload_n 1, []), (.getfield 165, [7, 15, 3, 242]), (.aload_n 0, []), (.getfield 25, [1, 4, 3, 448]), (.iload_n 2, []), (.iaload, []), (.iaload, []), (.iand, []), (.ifCond .ne 7, [4]), (.iconst 1, []), (.goto 4, [5])], 0),
  ([(.iconst 0, [])], 5),
  ([(.ireturn, [])], 0)])
def md_Finder_seekBest : gD := (yX2_seekBest, cX2_seekBest, 4, none, 4, (0, 0), [0, 8], [
  ([(.aload_n 0, []), (.getfield 19, [1, 2, 1, 446]), (.ifCond .eq 4, [1]), (.return_, [])], 0),
  ([(.aload_n 0, []), (.aload_n 1, []), (.iload_n 3, []), (.invokevirtual 73, [0, 24, 2, 1, 0, 0, 1040]), (.aload_n 0, []), (.aload_n 1, []), (.aload_n 2, []), (.invokevirtual 77, [0, 25, 2, 1, 0, 0, 1046]), (.aload_n 0, []), (.aload_n 1, []), (.invokevirtual 96, [0, 33, 1, 1, 0, 0, 1103]), (.aload_n 0, []), (.aload_n 1, []), (.aload_n 2, []), (.invokevirtual 99, [0, 34, 2, 1, 0, 0, 1107]), (.aload_n 0, []), (.iconst 1, []), (.putfield 11, [1, 0, 0, 444]), (.aload_n 0, []), (.getfield 44, [1, 9, 3, 453]), (.iconst 0, []), (.iconst 0, []), (.iconst 0, []), (.invokevirtual 102, [0, 97, 3, 5, 0, 0, 1111]), (.aload_n 0, []), (.getfield 48, [1, 10, 3, 454]), (.bipush 11, []), (.iconst 0, []), (.iconst 0, []), (.invokevirtual 102, [0, 97, 3, 5, 0, 0, 1111]), (.aload_n 0, []), (.aload_n 1, []), (.iconst 0, []), (.invokevirtual 94, [0, 27, 2, 1, 0, 0, 1057]), (.aload_n 0, []), (.aload_n 0, []), (.getfield 48, [1, 10, 3, 454]), (.getfield 106, [5, 0, 0, 432]), (.putfield 64, [1, 15, 0, 460]), (.aload_n 0, []), (.aload_n 0, []), (.getfield 48, [1, 10, 3, 454]), (.getfield 109, [5, 2, 0, 435]), (.putfield 67, [1, 16, 0, 462]), (.aload_n 0, []), (.iconst 1, []), (.putfield 19, [1, 2, 1, 446]), (.return_, [])], 0)])
def md_Finder_shutOutAlone : gD := (yX2_shutOutAlone, cX2_shutOutAlone, 4, none, 2, (0, 0), [0, 4, 29, 37, 45, 47, 95, 101], [
  ([(.iconst 0, []), (.istore_n 2, []), (.iconst 0, []), (.istore_n 3, [])], 1),
  ([(.iload_n 3, []), (.aload_n 0, []), (.getfield 22, [1, 3, 0, 447]), (.if_icmp .ge 36, [4]), (.iload_n 2, []), (.aload_n 0, []), (.getfield 29, [1, 5, 3, 449]), (.iload_n 3, []), (.iaload, []), (.sipush 4096, []), (.if_icmp .ne 7, [2]), (.iconst 0, []), (.goto 11, [3])], 0),
  ([(.iconst 1, []), (.aload_n 0, []), (.getfield 25, [1, 4, 3, 448]), (.iload_n 3, []), (.iaload, []), (.ishl, [])], 3),
  ([(.ior, []), (.istore_n 2, []), (.iinc 3 1, []), (.goto (-38), [1])], 0),
  ([(.iconst 0, []), (.istore_n 3, [])], 5),
  ([(.iload_n 3, []), (.aload_n 0, []), (.getfield 22, [1, 3, 0, 447]), (.if_icmp .ge 49, [7]), (.aload_n 1, []), (.getfield 162, [7, 9, 3, 222]), (.aload_n 0, []), (.getfield 25, [1, 4, 3, 448]), (.iload_n 3, []), (.iaload, []), (.iaload, []), (.iconst 3, []), (.if_icmp .ne 28, [6]), (.iload_n 2, []), (.aload_n 1, []), (.getfield 165, [7, 15, 3, 242]), (.aload_n 0, []), (.getfield 25, [1, 4, 3, 448]), (.iload_n 3, []), (.iaload, []), (.iaload, []), (.iand, []), (.ifCond .ne 12, [6]), (.aload_n 0, []), (.getfield 29, [1, 5, 3, 449]), (.iload_n 3, []), (.sipush 4096, []), (.iastore, [])], 6),
  ([(.iinc 3 1, []), (.goto (-51), [5])], 0),
  ([(.return_, [])], 0)])
def md_Finder_addUpRest : gD := (yX2_addUpRest, cX2_addUpRest, 4, none, 3, (0, 0), [0, 22, 92, 109, 115], [
  ([(.aload_n 0, []), (.getfield 51, [1, 11, 3, 455]), (.aload_n 0, []), (.getfield 22, [1, 3, 0, 447]), (.aaload, []), (.iconst 0, []), (.iconst 0, []), (.iconst 0, []), (.invokevirtual 102, [0, 97, 3, 5, 0, 0, 1111]), (.aload_n 0, []), (.getfield 22, [1, 3, 0, 447]), (.iconst 1, []), (.isub, []), (.istore_n 3, [])], 1),
  ([(.iload_n 3, []), (.ifCond .lt 92, [4]), (.aload_n 0, []), (.getfield 55, [1, 12, 3, 456]), (.iload_n 3, []), (.aload_n 2, []), (.getfield 168, [6, 1, 3, 362]), (.aload_n 0, []), (.getfield 25, [1, 4, 3, 448]), (.iload_n 3, []), (.iaload, []), (.iaload, []), (.iastore, []), (.aload_n 0, []), (.getfield 51, [1, 11, 3, 455]), (.iload_n 3, []), (.aaload, []), (.aload_n 0, []), (.getfield 51, [1, 11, 3, 455]), (.iload_n 3, []), (.iconst 1, []), (.iadd, []), (.aaload, []), (.invokevirtual 169, [0, 95, 1, 5, 0, 0, 1074]), (.aload_n 0, []), (.getfield 29, [1, 5, 3, 449]), (.iload_n 3, []), (.iaload, []), (.sipush 4096, []), (.if_icmp .ne 23, [2]), (.aload_n 0, []), (.getfield 51, [1, 11, 3, 455]), (.iload_n 3, []), (.aaload, []), (.iconst 1, []), (.aload_n 0, []), (.getfield 55, [1, 12, 3, 456]), (.iload_n 3, []), (.iaload, []), (.iconst 0, []), (.invokevirtual 173, [0, 96, 3, 5, 0, 0, 1087]), (.goto 20, [3])], 0),
  ([(.aload_n 0, []), (.getfield 51, [1, 11, 3, 455]), (.iload_n 3, []), (.aaload, []), (.iconst 0, []), (.iconst 0, []), (.aload_n 0, []), (.aload_n 1, []), (.iload_n 3, []), (.invokevirtual 176, [0, 35, 2, 1, 0, 0, 1115]), (.invokevirtual 173, [0, 96, 3, 5, 0, 0, 1087])], 3),
  ([(.iinc 3 (-1), []), (.goto (-90), [1])], 0),
  ([(.return_, [])], 0)])
def md_Finder_mostWanted : gD := (yX2_mostWanted, cX2_mostWanted, 5, (some .int), 3, (0, 0), [0, 5, 50, 56], [
  ([(.iconst 0, []), (.istore_n 3, []), (.iconst 0, []), (.istore 4, [])], 1),
  ([(.iload 4, []), (.aload_n 1, []), (.getfield 139, [7, 6, 0, 205]), (.if_icmp .ge 45, [3]), (.aload_n 0, []), (.getfield 29, [1, 5, 3, 449]), (.iload_n 2, []), (.iaload, []), (.iload 4, []), (.ishr, []), (.iconst 1, []), (.iand, []), (.ifCond .eq 25, [2]), (.iload_n 3, []), (.aload_n 1, []), (.aload_n 0, []), (.getfield 25, [1, 4, 3, 448]), (.iload_n 2, []), (.iaload, []), (.aload_n 1, []), (.getfield 156, [7, 7, 3, 211]), (.iload 4, []), (.iaload, []), (.invokevirtual 180, [0, 133, 2, 7, 0, 0, 1086]), (.invokestatic 184, [5, 1119]), (.istore_n 3, [])], 2),
  ([(.iinc 4 1, []), (.goto (-48), [1])], 0),
  ([(.iload_n 3, []), (.ireturn, [])], 0)])
def md_Finder_bestNight : gD := (yX2_bestNight, cX2_bestNight, 4, none, 3, (0, 0), [0, 2, 31], [
  ([(.iconst 0, []), (.istore_n 3, [])], 1),
  ([(.iload_n 3, []), (.iconst 1, []), (.if_icmp .gt 27, [2]), (.aload_n 0, []), (.invokevirtual 126, [0, 22, 0, 1, 0, 0, 1241]), (.aload_n 0, []), (.aload_n 1, []), (.aload_n 2, []), (.iload_n 3, []), (.invokevirtual 129, [0, 32, 3, 1, 0, 0, 1242]), (.aload_n 0, []), (.aload_n 1, []), (.aload_n 2, []), (.iload_n 3, []), (.invokevirtual 133, [0, 37, 3, 1, 0, 0, 1243]), (.iinc 3 1, []), (.goto (-26), [1])], 0),
  ([(.aload_n 0, []), (.invokevirtual 126, [0, 22, 0, 1, 0, 0, 1241]), (.aload_n 2, []), (.aload_n 1, []), (.invokevirtual 136, [0, 120, 1, 6, 0, 0, 1247]), (.return_, [])], 0)])
def md_Finder_layRow : gD := (yX2_layRow, cX2_layRow, 5, none, 4, (0, 0), [0, 3, 36, 42], [
  ([(.iconst 0, []), (.istore 4, [])], 1),
  ([(.iload 4, []), (.aload_n 1, []), (.getfield 112, [7, 8, 0, 217]), (.if_icmp .ge 33, [3]), (.aload_n 1, []), (.iload 4, []), (.invokevirtual 117, [0, 130, 1, 7, 0, 0, 1045]), (.iload_n 3, []), (.if_icmp .ne 17, [2]), (.aload_n 2, []), (.getfield 121, [6, 0, 3, 359]), (.iload 4, []), (.aload_n 0, []), (.getfield 70, [1, 17, 3, 464]), (.iload 4, []), (.iaload, []), (.iastore, [])], 2),
  ([(.iinc 4 1, []), (.goto (-36), [1])], 0),
  ([(.return_, [])], 0)])
def md_Finder_countFits : gD := (yX2_countFits, cX2_countFits, 3, none, 3, (0, 0), [0, 23], [
  ([(.aload_n 0, []), (.getfield 15, [1, 1, 1, 445]), (.ifCond .ne 19, [1]), (.aload_n 0, []), (.aload_n 1, []), (.iload_n 2, []), (.invokevirtual 73, [0, 24, 2, 1, 0, 0, 1040]), (.aload_n 0, []), (.aload_n 1, []), (.invokevirtual 85, [0, 39, 1, 1, 0, 0, 1417]), (.aload_n 0, []), (.aload_n 1, []), (.invokevirtual 81, [0, 26, 1, 1, 0, 0, 1053])], 1),
  ([(.return_, [])], 0)])
def md_Finder_openFits : gD := (yX2_openFits, cX2_openFits, 6, none, 2, (0, 0), [0, 2, 37, 38, 42, 68, 72, 73, 124, 130, 136], [
  ([(.iconst 0, []), (.istore_n 2, [])], 1),
  ([(.iload_n 2, []), (.aload_n 0, []), (.getfield 22, [1, 3, 0, 447]), (.if_icmp .ge 129, [10]), (.aload_n 1, []), (.getfield 153, [7, 17, 3, 246]), (.aload_n 0, []), (.getfield 25, [1, 4, 3, 448]), (.iload_n 2, []), (.iaload, []), (.iaload, []), (.istore_n 3, []), (.aload_n 0, []), (.getfield 29, [1, 5, 3, 449]), (.iload_n 2, []), (.iload_n 3, []), (.ifCond .ne 9, [2]), (.sipush 4096, []), (.goto 4, [3])], 0),
  ([(.iconst 0, [])], 3),
  ([(.iastore, []), (.iconst 0, []), (.istore 4, [])], 4),
  ([(.iload 4, []), (.aload_n 1, []), (.getfield 139, [7, 6, 0, 205]), (.if_icmp .ge 82, [9]), (.iload_n 3, []), (.ifCond .eq 16, [5]), (.iload_n 3, []), (.iconst 1, []), (.aload_n 1, []), (.getfield 156, [7, 7, 3, 211]), (.iload 4, []), (.iaload, []), (.ishl, []), (.if_icmp .ne 7, [6])], 5),
  ([(.iconst 1, []), (.goto 4, [7])], 0),
  ([(.iconst 0, [])], 7),
  ([(.istore 5, []), (.iload 5, []), (.ifCond .eq 47, [8]), (.aload_n 1, []), (.iload 4, []), (.invokevirtual 142, [0, 136, 1, 7, 0, 0, 1050]), (.aload_n 1, []), (.aload_n 0, []), (.getfield 25, [1, 4, 3, 448]), (.iload_n 2, []), (.iaload, []), (.invokevirtual 117, [0, 130, 1, 7, 0, 0, 1045]), (.if_icmp .eq 28, [8]), (.aload_n 1, []), (.getfield 159, [7, 18, 0, 249]), (.iload 4, []), (.ishr, []), (.iconst 1, []), (.iand, []), (.ifCond .ne 16, [8]), (.aload_n 0, []), (.getfield 29, [1, 5, 3, 449]), (.iload_n 2, []), (.dup2, []), (.iaload, []), (.iconst 1, []), (.iload 4, []), (.ishl, []), (.ior, []), (.iastore, [])], 8),
  ([(.iinc 4 1, []), (.goto (-85), [4])], 0),
  ([(.iinc 2 1, []), (.goto (-131), [1])], 0),
  ([(.return_, [])], 0)])
def md_Finder_housesInSome : gD := (yX2_housesInSome, cX2_housesInSome, 5, (some .int), 3, (0, 0), [0, 5, 37, 38, 46], [
  ([(.iconst 0, []), (.istore_n 3, []), (.iconst 0, []), (.istore 4, [])], 1),
  ([(.iload 4, []), (.aload_n 1, []), (.getfield 139, [7, 6, 0, 205]), (.if_icmp .ge 35, [4]), (.iload_n 3, []), (.aload_n 0, []), (.iload_n 2, []), (.iload 4, []), (.invokevirtual 216, [0, 41, 2, 1, 0, 0, 1429]), (.ifCond .le 15, [2]), (.iconst 1, []), (.aload_n 1, []), (.getfield 156, [7, 7, 3, 211]), (.iload 4, []), (.iaload, []), (.ishl, []), (.goto 4, [3])], 0),
  ([(.iconst 0, [])], 3),
  ([(.ior, []), (.istore_n 3, []), (.iinc 4 1, []), (.goto (-38), [1])], 0),
  ([(.iload_n 3, []), (.ireturn, [])], 0)])
def md_Finder_foundWith : gD := (yX2_foundWith, cX2_foundWith, 3, (some .int), 3, (0, 0), [0, 17, 18], [
  ([(.aload_n 0, []), (.getfield 61, [1, 14, 3, 459]), (.iload_n 1, []), (.bipush 13, []), (.imul, []), (.iload_n 2, []), (.ifCond .ge 8, [1]), (.bipush 12, []), (.goto 4, [2])], 0),
  ([(.iload_n 2, [])], 2),
  ([(.iadd, []), (.iaload, []), (.ireturn, [])], 0)])
def md_Finder_houseInAll : gD := (yX2_houseInAll, cX2_houseInAll, 6, (some .int), 3, (0, 0), [0, 21, 22, 27, 52, 58], [
  ([(.aload_n 0, []), (.aload_n 1, []), (.iload_n 2, []), (.invokevirtual 219, [0, 40, 2, 1, 0, 0, 1441]), (.istore_n 3, []), (.aload_n 0, []), (.iload_n 2, []), (.bipush (-2), []), (.invokevirtual 216, [0, 41, 2, 1, 0, 0, 1429]), (.ifCond .ne 7, [1]), (.iconst 1, []), (.goto 4, [2])], 0),
  ([(.iconst 0, [])], 2),
  ([(.istore 4, []), (.iconst 0, []), (.istore 5, [])], 3),
  ([(.iload 4, []), (.ifCond .eq 29, [5]), (.iload 5, []), (.aload_n 1, []), (.getfield 222, [7, 1, 0, 188]), (.if_icmp .ge 20, [5]), (.iload_n 3, []), (.iconst 1, []), (.iload 5, []), (.ishl, []), (.if_icmp .ne 6, [4]), (.iload 5, []), (.ireturn, [])], 0),
  ([(.iinc 5 1, []), (.goto (-28), [3])], 0),
  ([(.bipush (-2), []), (.ireturn, [])], 0)])
def md_Finder_bedToAsk : gD := (yX2_bedToAsk, cX2_bedToAsk, 8, (some .int), 3, (0, 0), [0, 9, 64, 70], [
  ([(.iconst (-1), []), (.istore_n 3, []), (.bipush (-2), []), (.istore 4, []), (.iconst 0, []), (.istore 5, [])], 1),
  ([(.iload 5, []), (.aload_n 1, []), (.getfield 139, [7, 6, 0, 205]), (.if_icmp .ge 55, [3]), (.aload_n 1, []), (.iload 5, []), (.invokevirtual 142, [0, 136, 1, 7, 0, 0, 1050]), (.iload_n 2, []), (.if_icmp .ne 39, [2]), (.aload_n 0, []), (.aload_n 1, []), (.iload 5, []), (.invokevirtual 225, [0, 44, 2, 1, 0, 0, 1459]), (.istore 6, []), (.iload 6, []), (.aload_n 0, []), (.getfield 58, [1, 13, 0, 457]), (.iload 6, []), (.isub, []), (.invokestatic 189, [6, 1061]), (.istore 7, []), (.iload 7, []), (.iload_n 3, []), (.if_icmp .le 10, [2]), (.iload 7, []), (.istore_n 3, []), (.iload 5, []), (.istore 4, [])], 2),
  ([(.iinc 5 1, []), (.goto (-58), [1])], 0),
  ([(.iload 4, []), (.ireturn, [])], 0)])
def md_Finder_foundWithAnybody : gD := (yX2_foundWithAnybody, cX2_foundWithAnybody, 5, (some .int), 3, (0, 0), [0, 5, 30], [
  ([(.iconst 0, []), (.istore_n 3, []), (.iconst 0, []), (.istore 4, [])], 1),
  ([(.iload 4, []), (.aload_n 1, []), (.getfield 112, [7, 8, 0, 217]), (.if_icmp .ge 19, [2]), (.iload_n 3, []), (.aload_n 0, []), (.iload 4, []), (.iload_n 2, []), (.invokevirtual 216, [0, 41, 2, 1, 0, 0, 1429]), (.iadd, []), (.istore_n 3, []), (.iinc 4 1, []), (.goto (-22), [1])], 0),
  ([(.iload_n 3, []), (.ireturn, [])], 0)])
def md_Forecast_init : gD := (yX3_init, cX3_init, 1, none, 1, (25, 923), [0], [
  ([(.aload_n 0, []), (.invokespecial 3, [4, 508]), (.aload_n 0, []), (.new 9, [1, 509, 420, 149]), (.dup, []), (.invokespecial 11, [2, 21, 0, 16, 196, 510]), (.putfield 12, [2, 0, 3, 513]), (.aload_n 0, []), (.new 18, [6, 511, 351, 147]), (.dup, []), (.invokespecial 20, [3, 98, 0, 5, 250, 7]), (.putfield 21, [2, 1, 3, 514]), (.aload_n 0, []), (.bipush 41, []), (.newarray .int, [1]), (.putfield 25, [2, 2, 3, 515]), (.aload_n 0, []), (.sipush 410, []), (.newarray .int, [1]), (.putfield 29, [2, 3, 3, 517]), (.aload_n 0, []), (.iconst (-1), []), (.putfield 32, [2, 4, 0, 518]), (.aload_n 0, []), (.bipush (-2), []), (.putfield 36, [2, 5, 0, 519]), (.return_, [])], 0)])
def md_Forecast_forget : gD := (yX3_forget, cX3_forget, 1, none, 1, (0, 0), [0], [
  ([(.aload_n 0, []), (.iconst (-1), []), (.putfield 32, [2, 4, 0, 518]), (.aload_n 0, []), (.bipush (-2), []), (.putfield 36, [2, 5, 0, 519]), (.return_, [])], 0)])
def md_Forecast_reach : gD := (yX3_reach, cX3_reach, 4, none, 4, (0, 0), [0, 32, 105], [
  ([(.aload_n 0, []), (.getfield 32, [2, 4, 0, 518]), (.ifCond .ge 28, [1]), (.aload_n 0, []), (.getfield 21, [2, 1, 3, 514]), (.aload_n 2, []), (.invokevirtual 39, [0, 119, 1, 6, 0, 0, 1226]), (.aload_n 0, []), (.getfield 25, [2, 2, 3, 515]), (.iconst 0, []), (.iconst 0, []), (.iastore, []), (.aload_n 0, []), (.iconst 0, []), (.putfield 32, [2, 4, 0, 518]), (.aload_n 0, []), (.aload_n 1, []), (.invokevirtual 43, [0, 48, 1, 2, 0, 0, 1231])], 1),
  ([(.aload_n 0, []), (.getfield 32, [2, 4, 0, 518]), (.iload_n 3, []), (.if_icmp .ge 68, [2]), (.aload_n 0, []), (.getfield 32, [2, 4, 0, 518]), (.bipush 40, []), (.if_icmp .ge 59, [2]), (.aload_n 0, []), (.getfield 12, [2, 0, 3, 513]), (.aload_n 1, []), (.aload_n 0, []), (.getfield 21, [2, 1, 3, 514]), (.invokevirtual 47, [0, 36, 2, 1, 0, 0, 1237]), (.aload_n 0, []), (.dup, []), (.getfield 32, [2, 4, 0, 518]), (.iconst 1, []), (.iadd, []), (.putfield 32, [2, 4, 0, 518]), (.aload_n 0, []), (.getfield 25, [2, 2, 3, 515]), (.aload_n 0, []), (.getfield 32, [2, 4, 0, 518]), (.aload_n 0, []), (.getfield 25, [2, 2, 3, 515]), (.aload_n 0, []), (.getfield 32, [2, 4, 0, 518]), (.iconst 1, []), (.isub, []), (.iaload, []), (.aload_n 0, []), (.aload_n 1, []), (.invokevirtual 51, [0, 49, 1, 2, 0, 0, 1268]), (.iadd, []), (.iastore, []), (.aload_n 0, []), (.aload_n 1, []), (.invokevirtual 43, [0, 48, 1, 2, 0, 0, 1231]), (.goto (-70), [1])], 0),
  ([(.return_, [])], 0)])
def md_Forecast_note : gD := (yX3_note, cX3_note, 2, none, 2, (0, 0), [0, 50], [
  ([(.aload_n 0, []), (.getfield 21, [2, 1, 3, 514]), (.getfield 55, [6, 2, 3, 365]), (.iconst 0, []), (.aload_n 0, []), (.getfield 29, [2, 3, 3, 517]), (.aload_n 0, []), (.getfield 32, [2, 4, 0, 518]), (.bipush 10, []), (.imul, []), (.bipush 10, []), (.invokestatic 56, [7, 1235]), (.aload_n 0, []), (.getfield 36, [2, 5, 0, 519]), (.ifCond .ge 22, [1]), (.aload_n 0, []), (.getfield 21, [2, 1, 3, 514]), (.aload_n 1, []), (.invokevirtual 62, [0, 111, 1, 6, 0, 0, 1236]), (.ifCond .eq 11, [1]), (.aload_n 0, []), (.aload_n 0, []), (.getfield 32, [2, 4, 0, 518]), (.putfield 36, [2, 5, 0, 519])], 1),
  ([(.return_, [])], 0)])
def md_Forecast_inChurch : gD := (yX3_inChurch, cX3_inChurch, 4, (some .int), 2, (0, 0), [0, 4, 29, 30, 38], [
  ([(.iconst 0, []), (.istore_n 2, []), (.iconst 0, []), (.istore_n 3, [])], 1),
  ([(.iload_n 3, []), (.aload_n 1, []), (.getfield 66, [7, 8, 0, 216]), (.if_icmp .ge 29, [4]), (.iload_n 2, []), (.aload_n 0, []), (.getfield 21, [2, 1, 3, 514]), (.getfield 71, [6, 0, 3, 358]), (.iload_n 3, []), (.iaload, []), (.ifCond .ge 7, [2]), (.iconst 1, []), (.goto 4, [3])], 0),
  ([(.iconst 0, [])], 3),
  ([(.iadd, []), (.istore_n 2, []), (.iinc 3 1, []), (.goto (-31), [1])], 0),
  ([(.iload_n 2, []), (.ireturn, [])], 0)])
def md_Forecast_knownBy : gD := (yX3_knownBy, cX3_knownBy, 3, (some .int), 3, (0, 0), [0], [
  ([(.aload_n 0, []), (.getfield 29, [2, 3, 3, 517]), (.iload_n 2, []), (.bipush 10, []), (.imul, []), (.iload_n 1, []), (.iadd, []), (.iaload, []), (.ireturn, [])], 0)])
def md_Forecast_hasLeaked : gD := (yX3_hasLeaked, cX3_hasLeaked, 5, (some .boolean), 4, (0, 0), [0, 3, 43, 49], [
  ([(.iconst 0, []), (.istore 4, [])], 1),
  ([(.iload 4, []), (.aload_n 1, []), (.getfield 66, [7, 8, 0, 216]), (.if_icmp .ge 40, [3]), (.aload_n 1, []), (.iload 4, []), (.invokevirtual 74, [0, 130, 1, 7, 0, 0, 1292]), (.aload_n 1, []), (.getfield 78, [7, 2, 3, 192]), (.iload_n 2, []), (.iaload, []), (.if_icmp .eq 19, [2]), (.aload_n 0, []), (.iload 4, []), (.iload_n 3, []), (.invokevirtual 81, [0, 50, 2, 2, 0, 0, 1293]), (.iload_n 2, []), (.ishr, []), (.iconst 1, []), (.iand, []), (.ifCond .eq 5, [2]), (.iconst 1, []), (.ireturn, [])], 0),
  ([(.iinc 4 1, []), (.goto (-43), [1])], 0),
  ([(.iconst 0, []), (.ireturn, [])], 0)])
def md_Past_init : gD := (yX4_init, cX4_init, 2, none, 1, (92, 3885), [0, 38, 63, 65, 89], [
  ([(.aload_n 0, []), (.invokespecial 3, [4, 396]), (.aload_n 0, []), (.bipush 12, []), (.anewarray 9, [3, 397]), (.putfield 11, [3, 0, 3, 400]), (.aload_n 0, []), (.iconst 0, []), (.putfield 17, [3, 1, 0, 401]), (.aload_n 0, []), (.iconst 0, []), (.putfield 21, [3, 2, 0, 402]), (.aload_n 0, []), (.iconst 3, []), (.anewarray 9, [3, 397]), (.putfield 24, [3, 3, 3, 404]), (.aload_n 0, []), (.iconst 0, []), (.putfield 27, [3, 4, 0, 405]), (.iconst 0, []), (.istore_n 1, [])], 1),
  ([(.iload_n 1, []), (.bipush 12, []), (.if_icmp .ge 22, [2]), (.aload_n 0, []), (.getfield 11, [3, 0, 3, 400]), (.iload_n 1, []), (.new 9, [6, 397, 351, 147]), (.dup, []), (.invokespecial 30, [3, 98, 0, 5, 250, 4]), (.aastore, []), (.iinc 1 1, []), (.goto (-22), [1])], 0),
  ([(.iconst 0, []), (.istore_n 1, [])], 3),
  ([(.iload_n 1, []), (.iconst 3, []), (.if_icmp .ge 22, [4]), (.aload_n 0, []), (.getfield 24, [3, 3, 3, 404]), (.iload_n 1, []), (.new 9, [6, 397, 351, 147]), (.dup, []), (.invokespecial 30, [3, 98, 0, 5, 250, 4]), (.aastore, []), (.iinc 1 1, []), (.goto (-21), [3])], 0),
  ([(.return_, [])], 0)])
def md_Past_forgetAll : gD := (yX4_forgetAll, cX4_forgetAll, 1, none, 1, (0, 0), [0], [
  ([(.aload_n 0, []), (.iconst 0, []), (.putfield 21, [3, 2, 0, 402]), (.aload_n 0, []), (.iconst 0, []), (.putfield 27, [3, 4, 0, 405]), (.return_, [])], 0)])
def md_Past_keep : gD := (yX4_keep, cX4_keep, 2, none, 2, (0, 0), [0, 34, 35], [
  ([(.aload_n 0, []), (.getfield 11, [3, 0, 3, 400]), (.aload_n 0, []), (.getfield 17, [3, 1, 0, 401]), (.aaload, []), (.aload_n 1, []), (.invokevirtual 31, [0, 119, 1, 6, 0, 0, 1475]), (.aload_n 0, []), (.aload_n 0, []), (.getfield 17, [3, 1, 0, 401]), (.iconst 1, []), (.iadd, []), (.bipush 12, []), (.if_icmp .ge 12, [1]), (.aload_n 0, []), (.getfield 17, [3, 1, 0, 401]), (.iconst 1, []), (.iadd, []), (.goto 4, [2])], 0),
  ([(.iconst 0, [])], 2),
  ([(.putfield 17, [3, 1, 0, 401]), (.aload_n 0, []), (.bipush 12, []), (.aload_n 0, []), (.getfield 21, [3, 2, 0, 402]), (.iconst 1, []), (.iadd, []), (.invokestatic 35, [6, 1476]), (.putfield 21, [3, 2, 0, 402]), (.return_, [])], 0)])
def md_Past_restore : gD := (yX4_restore, cX4_restore, 2, none, 2, (0, 0), [0, 24, 26, 52], [
  ([(.aload_n 0, []), (.getfield 21, [3, 2, 0, 402]), (.ifCond .le 48, [3]), (.aload_n 0, []), (.aload_n 0, []), (.getfield 17, [3, 1, 0, 401]), (.ifCond .le 12, [1]), (.aload_n 0, []), (.getfield 17, [3, 1, 0, 401]), (.iconst 1, []), (.isub, []), (.goto 5, [2])], 0),
  ([(.bipush 11, [])], 2),
  ([(.putfield 17, [3, 1, 0, 401]), (.aload_n 0, []), (.dup, []), (.getfield 21, [3, 2, 0, 402]), (.iconst 1, []), (.isub, []), (.putfield 21, [3, 2, 0, 402]), (.aload_n 1, []), (.aload_n 0, []), (.getfield 11, [3, 0, 3, 400]), (.aload_n 0, []), (.getfield 17, [3, 1, 0, 401]), (.aaload, []), (.invokevirtual 31, [0, 119, 1, 6, 0, 0, 1475])], 3),
  ([(.return_, [])], 0)])
def md_Past_addImage : gD := (yX4_addImage, cX4_addImage, 2, (some .int), 2, (0, 0), [0, 10], [
  ([(.aload_n 0, []), (.getfield 27, [3, 4, 0, 405]), (.iconst 3, []), (.if_icmp .lt 5, [1]), (.iconst (-1), []), (.ireturn, [])], 0),
  ([(.aload_n 0, []), (.getfield 24, [3, 3, 3, 404]), (.aload_n 0, []), (.getfield 27, [3, 4, 0, 405]), (.aaload, []), (.aload_n 1, []), (.invokevirtual 31, [0, 119, 1, 6, 0, 0, 1475]), (.aload_n 0, []), (.dup, []), (.getfield 27, [3, 4, 0, 405]), (.iconst 1, []), (.iadd, []), (.putfield 27, [3, 4, 0, 405]), (.aload_n 0, []), (.getfield 27, [3, 4, 0, 405]), (.iconst 1, []), (.isub, []), (.ireturn, [])], 0)])
def md_Past_goBack : gD := (yX4_goBack, cX4_goBack, 3, (some .boolean), 3, (0, 0), [0, 12, 14], [
  ([(.iload_n 2, []), (.ifCond .lt 11, [1]), (.iload_n 2, []), (.aload_n 0, []), (.getfield 27, [3, 4, 0, 405]), (.if_icmp .lt 5, [2])], 1),
  ([(.iconst 0, []), (.ireturn, [])], 0),
  ([(.aload_n 1, []), (.aload_n 0, []), (.getfield 24, [3, 3, 3, 404]), (.iload_n 2, []), (.aaload, []), (.invokevirtual 31, [0, 119, 1, 6, 0, 0, 1475]), (.aload_n 0, []), (.iconst 0, []), (.putfield 21, [3, 2, 0, 402]), (.iconst 1, []), (.ireturn, [])], 0)])
def md_Reader_init : gD := (yX5_init, cX5_init, 1, none, 1, (19, 1135), [0], [
  ([(.aload_n 0, []), (.invokespecial 3, [4, 301]), (.aload_n 0, []), (.iconst 0, []), (.putfield 9, [4, 0, 0, 304]), (.aload_n 0, []), (.iconst 0, []), (.putfield 15, [4, 1, 0, 306]), (.aload_n 0, []), (.new 18, [7, 302, 176, 145]), (.dup, []), (.invokespecial 20, [3, 125, 0, 15, 199, 2]), (.putfield 21, [4, 2, 3, 308]), (.aload_n 0, []), (.sipush 900, []), (.newarray .int, [1]), (.putfield 25, [4, 3, 3, 309]), (.aload_n 0, []), (.bipush 6, []), (.newarray .long, [2]), (.putfield 29, [4, 4, 3, 310]), (.aload_n 0, []), (.bipush 10, []), (.newarray .long, [2]), (.putfield 33, [4, 5, 3, 311]), (.aload_n 0, []), (.iconst 0, []), (.putfield 36, [4, 6, 0, 312]), (.aload_n 0, []), (.iconst 0, []), (.putfield 39, [4, 7, 0, 313]), (.aload_n 0, []), (.iconst 0, []), (.putfield 42, [4, 8, 0, 314]), (.aload_n 0, []), (.lconst 0, []), (.putfield 45, [4, 9, 2, 315]), (.aload_n 0, []), (.iconst 0, []), (.putfield 49, [4, 10, 1, 316]), (.aload_n 0, []), (.iconst 0, []), (.putfield 53, [4, 11, 1, 317]), (.aload_n 0, []), (.iconst 0, []), (.putfield 56, [4, 12, 0, 318]), (.aload_n 0, []), (.iconst 0, []), (.putfield 59, [4, 13, 0, 319]), (.return_, [])], 0)])
def md_Reader_begin : gD := (yX5_begin, cX5_begin, 3, none, 3, (0, 0), [0], [
  ([(.aload_n 0, []), (.iconst 0, []), (.iload_n 2, []), (.aload_n 1, []), (.arraylength, []), (.sipush 900, []), (.invokestatic 62, [6, 628]), (.invokestatic 62, [6, 628]), (.invokestatic 68, [5, 631]), (.putfield 36, [4, 6, 0, 312]), (.aload_n 1, []), (.iconst 0, []), (.aload_n 0, []), (.getfield 25, [4, 3, 3, 309]), (.iconst 0, []), (.aload_n 0, []), (.getfield 36, [4, 6, 0, 312]), (.invokestatic 71, [7, 634]), (.aload_n 0, []), (.getfield 21, [4, 2, 3, 308]), (.invokevirtual 77, [0, 126, 0, 7, 0, 0, 637]), (.aload_n 0, []), (.iconst 0, []), (.putfield 9, [4, 0, 0, 304]), (.aload_n 0, []), (.iconst 0, []), (.putfield 15, [4, 1, 0, 306]), (.aload_n 0, []), (.iconst 0, []), (.putfield 39, [4, 7, 0, 313]), (.aload_n 0, []), (.iconst 3, []), (.putfield 42, [4, 8, 0, 314]), (.aload_n 0, []), (.iconst 0, []), (.putfield 49, [4, 10, 1, 316]), (.aload_n 0, []), (.iconst 0, []), (.putfield 53, [4, 11, 1, 317]), (.aload_n 0, []), (.iconst 0, []), (.putfield 56, [4, 12, 0, 318]), (.aload_n 0, []), (.iconst 0, []), (.putfield 59, [4, 13, 0, 319]), (.return_, [])], 0)])
def md_Reader_goesOn : gD := (yX5_goesOn, cX5_goesOn, 1, (some .boolean), 1, (0, 0), [0, 19, 20], [
  ([(.aload_n 0, []), (.getfield 9, [4, 0, 0, 304]), (.ifCond .ne 15, [1]), (.aload_n 0, []), (.getfield 42, [4, 8, 0, 314]), (.iconst 3, []), (.if_icmp .ne 7, [1]), (.iconst 1, []), (.goto 4, [2])], 0),
  ([(.iconst 0, [])], 2),
  ([(.ireturn, [])], 0)])
def md_Reader_openLine : gD := (yX5_openLine, cX5_openLine, 3, (some .int), 1, (0, 0), [0, 21], [
  ([(.aload_n 0, []), (.invokevirtual 80, [0, 62, 0, 4, 0, 0, 652]), (.aload_n 0, []), (.invokevirtual 83, [0, 64, 0, 4, 0, 0, 660]), (.istore_n 1, []), (.aload_n 0, []), (.iload_n 1, []), (.invokevirtual 87, [0, 66, 1, 4, 0, 0, 725]), (.istore_n 2, []), (.iload_n 2, []), (.ifCond .ne 5, [1]), (.iload_n 1, []), (.ireturn, [])], 0),
  ([(.aload_n 0, []), (.iload_n 2, []), (.invokevirtual 91, [0, 68, 1, 4, 0, 0, 733]), (.bipush 9, []), (.ireturn, [])], 0)])
def md_Reader_next : gD := (yX5_next, cX5_next, 2, none, 1, (0, 0), [0, 13, 51, 82, 83, 103, 135, 136, 142, 173, 174, 180, 191, 192, 205], [
  ([(.aload_n 0, []), (.getfield 9, [4, 0, 0, 304]), (.ifCond .eq 9, [1]), (.aload_n 0, []), (.iconst 4, []), (.putfield 42, [4, 8, 0, 314]), (.return_, [])], 0),
  ([(.aload_n 0, []), (.getfield 39, [4, 7, 0, 313]), (.aload_n 0, []), (.getfield 36, [4, 6, 0, 312]), (.if_icmp .ge 30, [2]), (.aload_n 0, []), (.getfield 25, [4, 3, 3, 309]), (.aload_n 0, []), (.getfield 39, [4, 7, 0, 313]), (.iaload, []), (.bipush 32, []), (.if_icmp .ne 16, [2]), (.aload_n 0, []), (.dup, []), (.getfield 39, [4, 7, 0, 313]), (.iconst 1, []), (.iadd, []), (.putfield 39, [4, 7, 0, 313]), (.goto (-35), [1])], 0),
  ([(.aload_n 0, []), (.aload_n 0, []), (.getfield 39, [4, 7, 0, 313]), (.putfield 15, [4, 1, 0, 306]), (.aload_n 0, []), (.getfield 39, [4, 7, 0, 313]), (.aload_n 0, []), (.getfield 36, [4, 6, 0, 312]), (.if_icmp .ge 15, [3]), (.aload_n 0, []), (.getfield 25, [4, 3, 3, 309]), (.aload_n 0, []), (.getfield 39, [4, 7, 0, 313]), (.iaload, []), (.goto 4, [4])], 0),
  ([(.iconst 0, [])], 4),
  ([(.istore_n 1, []), (.aload_n 0, []), (.getfield 39, [4, 7, 0, 313]), (.aload_n 0, []), (.getfield 36, [4, 6, 0, 312]), (.if_icmp .lt 11, [5]), (.aload_n 0, []), (.iconst 0, []), (.putfield 42, [4, 8, 0, 314]), (.goto 105, [14])], 0),
  ([(.iload_n 1, []), (.bipush 97, []), (.if_icmp .lt 36, [8]), (.iload_n 1, []), (.bipush 122, []), (.if_icmp .gt 30, [8]), (.aload_n 0, []), (.aload_n 0, []), (.bipush 97, []), (.bipush 122, []), (.bipush 27, []), (.invokevirtual 104, [0, 63, 3, 4, 0, 0, 656]), (.bipush 8, []), (.if_icmp .gt 7, [6]), (.iconst 1, []), (.goto 4, [7])], 0),
  ([(.iconst 4, [])], 7),
  ([(.putfield 42, [4, 8, 0, 314]), (.goto 66, [14])], 0),
  ([(.iload_n 1, []), (.bipush 48, []), (.if_icmp .lt 35, [11]), (.iload_n 1, []), (.bipush 57, []), (.if_icmp .gt 29, [11]), (.aload_n 0, []), (.aload_n 0, []), (.bipush 48, []), (.bipush 57, []), (.bipush 10, []), (.invokevirtual 104, [0, 63, 3, 4, 0, 0, 656]), (.iconst 3, []), (.if_icmp .gt 7, [9]), (.iconst 2, []), (.goto 4, [10])], 0),
  ([(.iconst 4, [])], 10),
  ([(.putfield 42, [4, 8, 0, 314]), (.goto 28, [14])], 0),
  ([(.aload_n 0, []), (.iload_n 1, []), (.bipush 59, []), (.if_icmp .ne 7, [12]), (.iconst 3, []), (.goto 4, [13])], 0),
  ([(.iconst 4, [])], 13),
  ([(.putfield 42, [4, 8, 0, 314]), (.aload_n 0, []), (.dup, []), (.getfield 39, [4, 7, 0, 313]), (.iconst 1, []), (.iadd, []), (.putfield 39, [4, 7, 0, 313])], 14),
  ([(.return_, [])], 0)])
def md_Reader_readRun : gD := (yX5_readRun, cX5_readRun, 4, (some .int), 4, (0, 0), [0, 5, 83], [
  ([(.aload_n 0, []), (.lconst 0, []), (.putfield 45, [4, 9, 2, 315])], 1),
  ([(.aload_n 0, []), (.getfield 39, [4, 7, 0, 313]), (.aload_n 0, []), (.getfield 36, [4, 6, 0, 312]), (.if_icmp .ge 70, [2]), (.aload_n 0, []), (.getfield 25, [4, 3, 3, 309]), (.aload_n 0, []), (.getfield 39, [4, 7, 0, 313]), (.iaload, []), (.iload_n 1, []), (.if_icmp .lt 57, [2]), (.aload_n 0, []), (.getfield 25, [4, 3, 3, 309]), (.aload_n 0, []), (.getfield 39, [4, 7, 0, 313]), (.iaload, []), (.iload_n 2, []), (.if_icmp .gt 44, [2]), (.aload_n 0, []), (.aload_n 0, []), (.getfield 45, [4, 9, 2, 315]), (.iload_n 3, []), (.i2l, []), (.lmul, []), (.aload_n 0, []), (.getfield 25, [4, 3, 3, 309]), (.aload_n 0, []), (.getfield 39, [4, 7, 0, 313]), (.iaload, []), (.iload_n 2, []), (.isub, []), (.iload_n 3, []), (.iadd, []), (.iconst 1, []), (.isub, []), (.i2l, []), (.ladd, []), (.putfield 45, [4, 9, 2, 315]), (.aload_n 0, []), (.dup, []), (.getfield 39, [4, 7, 0, 313]), (.iconst 1, []), (.iadd, []), (.putfield 39, [4, 7, 0, 313]), (.goto (-75), [1])], 0),
  ([(.aload_n 0, []), (.getfield 39, [4, 7, 0, 313]), (.aload_n 0, []), (.getfield 15, [4, 1, 0, 306]), (.isub, []), (.ireturn, [])], 0)])
def md_Reader_lineSort : gD := (yX5_lineSort, cX5_lineSort, 1, (some .int), 1, (0, 0), [0, 11, 22, 33, 44, 55, 66, 78, 90, 104, 106], [
  ([(.aload_n 0, []), (.ldc 117, [1, 0, 0]), (.invokevirtual 119, [0, 65, 1, 4, 0, 0, 665]), (.ifCond .eq 5, [1]), (.iconst 0, []), (.ireturn, [])], 0),
  ([(.aload_n 0, []), (.ldc 123, [1, 1, 1]), (.invokevirtual 119, [0, 65, 1, 4, 0, 0, 665]), (.ifCond .eq 5, [2]), (.iconst 1, []), (.ireturn, [])], 0),
  ([(.aload_n 0, []), (.ldc 125, [1, 2, 2]), (.invokevirtual 119, [0, 65, 1, 4, 0, 0, 665]), (.ifCond .eq 5, [3]), (.iconst 2, []), (.ireturn, [])], 0),
  ([(.aload_n 0, []), (.ldc 127, [1, 3, 3]), (.invokevirtual 119, [0, 65, 1, 4, 0, 0, 665]), (.ifCond .eq 5, [4]), (.iconst 3, []), (.ireturn, [])], 0),
  ([(.aload_n 0, []), (.ldc 129, [1, 4, 4]), (.invokevirtual 119, [0, 65, 1, 4, 0, 0, 665]), (.ifCond .eq 5, [5]), (.iconst 4, []), (.ireturn, [])], 0),
  ([(.aload_n 0, []), (.ldc 131, [1, 5, 5]), (.invokevirtual 119, [0, 65, 1, 4, 0, 0, 665]), (.ifCond .eq 5, [6]), (.iconst 5, []), (.ireturn, [])], 0),
  ([(.aload_n 0, []), (.ldc 133, [1, 6, 6]), (.invokevirtual 119, [0, 65, 1, 4, 0, 0, 665]), (.ifCond .eq 6, [7]), (.bipush 6, []), (.ireturn, [])], 0),
  ([(.aload_n 0, []), (.ldc 135, [1, 7, 7]), (.invokevirtual 119, [0, 65, 1, 4, 0, 0, 665]), (.ifCond .eq 6, [8]), (.bipush 7, []), (.ireturn, [])], 0),
  ([(.aload_n 0, []), (.ldc 137, [1, 8, 8]), (.invokevirtual 119, [0, 65, 1, 4, 0, 0, 665]), (.ifCond .eq 8, [9]), (.bipush 8, []), (.goto 5, [10])], 0),
  ([(.bipush 9, [])], 10),
  ([(.ireturn, [])], 0)])
def md_Reader_says : gD := (yX5_says, cX5_says, 3, (some .boolean), 2, (0, 0), [0, 24, 26, 28, 57, 63], [
  ([(.aload_n 0, []), (.getfield 42, [4, 8, 0, 314]), (.iconst 1, []), (.if_icmp .ne 19, [1]), (.aload_n 1, []), (.invokevirtual 108, [8, 669]), (.aload_n 0, []), (.getfield 39, [4, 7, 0, 313]), (.aload_n 0, []), (.getfield 15, [4, 1, 0, 306]), (.isub, []), (.if_icmp .eq 5, [2])], 1),
  ([(.iconst 0, []), (.ireturn, [])], 0),
  ([(.iconst 0, []), (.istore_n 2, [])], 3),
  ([(.iload_n 2, []), (.aload_n 1, []), (.invokevirtual 108, [8, 669]), (.if_icmp .ge 30, [5]), (.aload_n 0, []), (.getfield 25, [4, 3, 3, 309]), (.aload_n 0, []), (.getfield 15, [4, 1, 0, 306]), (.iload_n 2, []), (.iadd, []), (.iaload, []), (.aload_n 1, []), (.iload_n 2, []), (.invokevirtual 113, [9, 679]), (.if_icmp .eq 5, [4]), (.iconst 0, []), (.ireturn, [])], 0),
  ([(.iinc 2 1, []), (.goto (-32), [3])], 0),
  ([(.iconst 1, []), (.ireturn, [])], 0)])
def md_Reader_lineFault : gD := (yX5_lineFault, cX5_lineFault, 2, (some .int), 2, (0, 0), [0, 8, 23, 24, 25, 35, 52, 53, 54, 66, 67], [
  ([(.iload_n 1, []), (.bipush 9, []), (.if_icmp .ne 5, [1]), (.iconst 1, []), (.ireturn, [])], 0),
  ([(.iload_n 1, []), (.ifCond .ne 16, [4]), (.aload_n 0, []), (.getfield 49, [4, 10, 1, 316]), (.ifCond .eq 7, [2]), (.iconst 3, []), (.goto 4, [3])], 0),
  ([(.iconst 0, [])], 3),
  ([(.ireturn, [])], 0),
  ([(.aload_n 0, []), (.getfield 49, [4, 10, 1, 316]), (.ifCond .ne 6, [5]), (.bipush 6, []), (.ireturn, [])], 0),
  ([(.iload_n 1, []), (.bipush 6, []), (.if_icmp .ne 16, [8]), (.aload_n 0, []), (.getfield 53, [4, 11, 1, 317]), (.ifCond .eq 7, [6]), (.iconst 3, []), (.goto 4, [7])], 0),
  ([(.iconst 0, [])], 7),
  ([(.ireturn, [])], 0),
  ([(.aload_n 0, []), (.iload_n 1, []), (.invokevirtual 166, [0, 67, 1, 4, 0, 0, 729]), (.ifCond .eq 7, [9]), (.iconst 5, []), (.goto 4, [10])], 0),
  ([(.iconst 0, [])], 10),
  ([(.ireturn, [])], 0)])
def md_Reader_isFull : gD := (yX5_isFull, cX5_isFull, 2, (some .boolean), 2, (0, 0), [0, 48, 64, 65, 66, 82, 83, 84, 97, 98, 99, 112, 113, 114, 130, 131, 132], [
  ([(.iload_n 1, []), (.tableswitch 131 1 8 #[47, 65, 83, 98, 131, 131, 113, 113], [16, 1, 4, 7, 10, 16, 16, 13, 13])], 0),
  ([(.aload_n 0, []), (.getfield 21, [4, 2, 3, 308]), (.getfield 95, [7, 1, 0, 187]), (.bipush 6, []), (.if_icmp .lt 7, [2]), (.iconst 1, []), (.goto 4, [3])], 0),
  ([(.iconst 0, [])], 3),
  ([(.ireturn, [])], 0),
  ([(.aload_n 0, []), (.getfield 21, [4, 2, 3, 308]), (.getfield 98, [7, 8, 0, 218]), (.bipush 10, []), (.if_icmp .lt 7, [5]), (.iconst 1, []), (.goto 4, [6])], 0),
  ([(.iconst 0, [])], 6),
  ([(.ireturn, [])], 0),
  ([(.aload_n 0, []), (.getfield 56, [4, 12, 0, 318]), (.bipush 6, []), (.if_icmp .lt 7, [8]), (.iconst 1, []), (.goto 4, [9])], 0),
  ([(.iconst 0, [])], 9),
  ([(.ireturn, [])], 0),
  ([(.aload_n 0, []), (.getfield 59, [4, 13, 0, 319]), (.bipush 12, []), (.if_icmp .lt 7, [11]), (.iconst 1, []), (.goto 4, [12])], 0),
  ([(.iconst 0, [])], 12),
  ([(.ireturn, [])], 0),
  ([(.aload_n 0, []), (.getfield 21, [4, 2, 3, 308]), (.getfield 170, [7, 19, 0, 252]), (.bipush 6, []), (.if_icmp .lt 7, [14]), (.iconst 1, []), (.goto 4, [15])], 0),
  ([(.iconst 0, [])], 15),
  ([(.ireturn, [])], 0),
  ([(.iconst 0, []), (.ireturn, [])], 0)])
def md_Reader_fail : gD := (yX5_fail, cX5_fail, 2, none, 2, (0, 0), [0, 12], [
  ([(.aload_n 0, []), (.getfield 9, [4, 0, 0, 304]), (.ifCond .ne 8, [1]), (.aload_n 0, []), (.iload_n 1, []), (.putfield 9, [4, 0, 0, 304])], 1),
  ([(.return_, [])], 0)])
def md_Reader_readLine : gD := (yX5_readLine, cX5_readLine, 2, none, 2, (0, 0), [0, 52, 59, 66, 73, 80, 87, 94, 101, 108, 115], [
  ([(.iload_n 1, []), (.tableswitch 114 0 8 #[51, 58, 65, 72, 79, 86, 93, 100, 107], [10, 1, 2, 3, 4, 5, 6, 7, 8, 9])], 0),
  ([(.aload_n 0, []), (.invokevirtual 139, [0, 70, 0, 4, 0, 0, 741]), (.goto 59, [10])], 0),
  ([(.aload_n 0, []), (.invokevirtual 142, [0, 74, 0, 4, 0, 0, 761]), (.goto 52, [10])], 0),
  ([(.aload_n 0, []), (.invokevirtual 145, [0, 78, 0, 4, 0, 0, 788]), (.goto 45, [10])], 0),
  ([(.aload_n 0, []), (.invokevirtual 148, [0, 82, 0, 4, 0, 0, 829]), (.goto 38, [10])], 0),
  ([(.aload_n 0, []), (.invokevirtual 151, [0, 84, 0, 4, 0, 0, 841]), (.goto 31, [10])], 0),
  ([(.aload_n 0, []), (.invokevirtual 154, [0, 86, 0, 4, 0, 0, 854]), (.goto 24, [10])], 0),
  ([(.aload_n 0, []), (.invokevirtual 157, [0, 87, 0, 4, 0, 0, 862]), (.goto 17, [10])], 0),
  ([(.aload_n 0, []), (.invokevirtual 160, [0, 88, 0, 4, 0, 0, 866]), (.goto 10, [10])], 0),
  ([(.aload_n 0, []), (.invokevirtual 163, [0, 89, 0, 4, 0, 0, 870]), (.goto 3, [10])], 0),
  ([(.return_, [])], 0)])
def md_Reader_readTowns : gD := (yX5_readTowns, cX5_readTowns, 1, none, 1, (0, 0), [0], [
  ([(.aload_n 0, []), (.iconst 1, []), (.putfield 49, [4, 10, 1, 316]), (.aload_n 0, []), (.getfield 21, [4, 2, 3, 308]), (.getfield 173, [7, 0, 3, 184]), (.iconst 0, []), (.aload_n 0, []), (.ldc 176, [1, 9, 9]), (.iconst 1, []), (.bipush 6, []), (.invokevirtual 178, [0, 71, 3, 4, 0, 0, 746]), (.iastore, []), (.aload_n 0, []), (.getfield 21, [4, 2, 3, 308]), (.getfield 173, [7, 0, 3, 184]), (.iconst 1, []), (.aload_n 0, []), (.ldc 182, [1, 10, 10]), (.iconst 0, []), (.bipush 30, []), (.invokevirtual 178, [0, 71, 3, 4, 0, 0, 746]), (.iastore, []), (.aload_n 0, []), (.getfield 21, [4, 2, 3, 308]), (.getfield 173, [7, 0, 3, 184]), (.iconst 2, []), (.aload_n 0, []), (.ldc 184, [1, 11, 11]), (.iconst 1, []), (.iconst 3, []), (.invokevirtual 178, [0, 71, 3, 4, 0, 0, 746]), (.iastore, []), (.aload_n 0, []), (.getfield 21, [4, 2, 3, 308]), (.getfield 173, [7, 0, 3, 184]), (.iconst 3, []), (.aload_n 0, []), (.ldc 186, [1, 12, 12]), (.iconst 0, []), (.bipush 9, []), (.invokevirtual 178, [0, 71, 3, 4, 0, 0, 746]), (.iastore, []), (.return_, [])], 0)])
def md_Reader_namedWhole : gD := (yX5_namedWhole, cX5_namedWhole, 4, (some .int), 4, (0, 0), [0], [
  ([(.aload_n 0, []), (.aload_n 1, []), (.invokevirtual 210, [0, 72, 1, 4, 0, 0, 750]), (.aload_n 0, []), (.iload_n 2, []), (.iload_n 3, []), (.invokevirtual 258, [0, 73, 2, 4, 0, 0, 754]), (.ireturn, [])], 0)])
def md_Reader_keyword : gD := (yX5_keyword, cX5_keyword, 2, none, 2, (0, 0), [0, 17], [
  ([(.aload_n 0, []), (.invokevirtual 80, [0, 62, 0, 4, 0, 0, 652]), (.aload_n 0, []), (.aload_n 1, []), (.invokevirtual 119, [0, 65, 1, 4, 0, 0, 665]), (.ifCond .ne 8, [1]), (.aload_n 0, []), (.iconst 1, []), (.invokevirtual 91, [0, 68, 1, 4, 0, 0, 733])], 1),
  ([(.return_, [])], 0)])
def md_Reader_whole : gD := (yX5_whole, cX5_whole, 3, (some .int), 3, (0, 0), [0, 19, 39, 44], [
  ([(.aload_n 0, []), (.invokevirtual 80, [0, 62, 0, 4, 0, 0, 652]), (.aload_n 0, []), (.getfield 42, [4, 8, 0, 314]), (.iconst 2, []), (.if_icmp .eq 10, [1]), (.aload_n 0, []), (.iconst 1, []), (.invokevirtual 91, [0, 68, 1, 4, 0, 0, 733]), (.iconst 0, []), (.ireturn, [])], 0),
  ([(.aload_n 0, []), (.getfield 45, [4, 9, 2, 315]), (.iload_n 1, []), (.i2l, []), (.lcmp, []), (.ifCond .lt 13, [2]), (.aload_n 0, []), (.getfield 45, [4, 9, 2, 315]), (.iload_n 2, []), (.i2l, []), (.lcmp, []), (.ifCond .le 8, [3])], 2),
  ([(.aload_n 0, []), (.iconst 4, []), (.invokevirtual 91, [0, 68, 1, 4, 0, 0, 733])], 3),
  ([(.aload_n 0, []), (.getfield 45, [4, 9, 2, 315]), (.l2i, []), (.ireturn, [])], 0)])
def md_Reader_readHouse : gD := (yX5_readHouse, cX5_readHouse, 5, none, 1, (0, 0), [0, 22, 35, 36, 47, 85, 127], [
  ([(.aload_n 0, []), (.invokevirtual 188, [0, 75, 0, 4, 0, 0, 765]), (.lstore_n 1, []), (.aload_n 0, []), (.invokevirtual 80, [0, 62, 0, 4, 0, 0, 652]), (.aload_n 0, []), (.ldc 192, [1, 13, 13]), (.invokevirtual 119, [0, 65, 1, 4, 0, 0, 665]), (.ifCond .eq 7, [1]), (.iconst 0, []), (.goto 17, [3])], 0),
  ([(.aload_n 0, []), (.ldc 194, [1, 14, 14]), (.invokevirtual 119, [0, 65, 1, 4, 0, 0, 665]), (.ifCond .eq 7, [2]), (.iconst 1, []), (.goto 4, [3])], 0),
  ([(.iconst (-1), [])], 3),
  ([(.istore_n 3, []), (.iload_n 3, []), (.iconst (-1), []), (.if_icmp .ne 8, [4]), (.aload_n 0, []), (.iconst 1, []), (.invokevirtual 91, [0, 68, 1, 4, 0, 0, 733])], 4),
  ([(.aload_n 0, []), (.ldc 196, [1, 15, 15]), (.iconst 1, []), (.iconst 3, []), (.invokevirtual 178, [0, 71, 3, 4, 0, 0, 746]), (.istore 4, []), (.aload_n 0, []), (.getfield 9, [4, 0, 0, 304]), (.ifCond .ne 24, [5]), (.aload_n 0, []), (.getfield 21, [4, 2, 3, 308]), (.iload_n 3, []), (.invokevirtual 198, [0, 127, 1, 7, 0, 0, 780]), (.iload 4, []), (.iadd, []), (.bipush 6, []), (.if_icmp .le 8, [5]), (.aload_n 0, []), (.iconst 5, []), (.invokevirtual 91, [0, 68, 1, 4, 0, 0, 733])], 5),
  ([(.aload_n 0, []), (.getfield 9, [4, 0, 0, 304]), (.ifCond .ne 38, [6]), (.aload_n 0, []), (.getfield 21, [4, 2, 3, 308]), (.getfield 95, [7, 1, 0, 187]), (.bipush 6, []), (.if_icmp .ge 26, [6]), (.aload_n 0, []), (.getfield 29, [4, 4, 3, 310]), (.aload_n 0, []), (.getfield 21, [4, 2, 3, 308]), (.getfield 95, [7, 1, 0, 187]), (.lload_n 1, []), (.lastore, []), (.aload_n 0, []), (.getfield 21, [4, 2, 3, 308]), (.iload_n 3, []), (.iload 4, []), (.invokevirtual 201, [0, 128, 2, 7, 0, 0, 784])], 6),
  ([(.return_, [])], 0)])
def md_Reader_newName : gD := (yX5_newName, cX5_newName, 1, (some .long), 1, (0, 0), [0, 49, 54], [
  ([(.aload_n 0, []), (.invokevirtual 281, [0, 76, 0, 4, 0, 0, 769]), (.aload_n 0, []), (.getfield 9, [4, 0, 0, 304]), (.ifCond .ne 46, [2]), (.aload_n 0, []), (.aload_n 0, []), (.getfield 29, [4, 4, 3, 310]), (.aload_n 0, []), (.getfield 21, [4, 2, 3, 308]), (.getfield 95, [7, 1, 0, 187]), (.invokevirtual 284, [0, 77, 2, 4, 0, 0, 773]), (.iconst (-1), []), (.if_icmp .ne 22, [1]), (.aload_n 0, []), (.aload_n 0, []), (.getfield 33, [4, 5, 3, 311]), (.aload_n 0, []), (.getfield 21, [4, 2, 3, 308]), (.getfield 98, [7, 8, 0, 218]), (.invokevirtual 284, [0, 77, 2, 4, 0, 0, 773]), (.iconst (-1), []), (.if_icmp .eq 8, [2])], 1),
  ([(.aload_n 0, []), (.iconst 3, []), (.invokevirtual 91, [0, 68, 1, 4, 0, 0, 733])], 2),
  ([(.aload_n 0, []), (.getfield 45, [4, 9, 2, 315]), (.lreturn, [])], 0)])
def md_Reader_readName : gD := (yX5_readName, cX5_readName, 1, none, 1, (0, 0), [0, 21, 26], [
  ([(.aload_n 0, []), (.invokevirtual 80, [0, 62, 0, 4, 0, 0, 652]), (.aload_n 0, []), (.getfield 42, [4, 8, 0, 314]), (.iconst 1, []), (.if_icmp .ne 12, [1]), (.aload_n 0, []), (.invokevirtual 83, [0, 64, 0, 4, 0, 0, 660]), (.bipush 9, []), (.if_icmp .eq 8, [2])], 1),
  ([(.aload_n 0, []), (.iconst 1, []), (.invokevirtual 91, [0, 68, 1, 4, 0, 0, 733])], 2),
  ([(.return_, [])], 0)])
def md_Reader_placeIn : gD := (yX5_placeIn, cX5_placeIn, 4, (some .int), 3, (0, 0), [0, 2, 26, 32], [
  ([(.iconst 0, []), (.istore_n 3, [])], 1),
  ([(.iload_n 3, []), (.iload_n 2, []), (.if_icmp .ge 28, [3]), (.iload_n 3, []), (.aload_n 1, []), (.arraylength, []), (.if_icmp .ge 22, [3]), (.aload_n 1, []), (.iload_n 3, []), (.laload, []), (.aload_n 0, []), (.getfield 45, [4, 9, 2, 315]), (.lcmp, []), (.ifCond .ne 5, [2]), (.iload_n 3, []), (.ireturn, [])], 0),
  ([(.iinc 3 1, []), (.goto (-27), [1])], 0),
  ([(.iconst (-1), []), (.ireturn, [])], 0)])
def md_Reader_readPerson : gD := (yX5_readPerson, cX5_readPerson, 7, none, 1, (0, 0), [0, 24, 72, 140], [
  ([(.aload_n 0, []), (.invokevirtual 188, [0, 75, 0, 4, 0, 0, 765]), (.lstore_n 1, []), (.aload_n 0, []), (.invokevirtual 80, [0, 62, 0, 4, 0, 0, 652]), (.aload_n 0, []), (.invokevirtual 205, [0, 79, 0, 4, 0, 0, 792]), (.istore_n 3, []), (.iload_n 3, []), (.iconst (-1), []), (.if_icmp .ne 8, [1]), (.aload_n 0, []), (.iconst 1, []), (.invokevirtual 91, [0, 68, 1, 4, 0, 0, 733])], 1),
  ([(.aload_n 0, []), (.ldc 208, [1, 20, 20]), (.invokevirtual 210, [0, 72, 1, 4, 0, 0, 750]), (.aload_n 0, []), (.invokevirtual 214, [0, 80, 0, 4, 0, 0, 801]), (.istore 4, []), (.aload_n 0, []), (.getfield 9, [4, 0, 0, 304]), (.ifCond .ne 32, [2]), (.aload_n 0, []), (.getfield 21, [4, 2, 3, 308]), (.aload_n 0, []), (.getfield 21, [4, 2, 3, 308]), (.getfield 217, [7, 2, 3, 194]), (.iload 4, []), (.iaload, []), (.invokevirtual 220, [0, 129, 1, 7, 0, 0, 809]), (.invokestatic 223, [1, 343, 1, 0, 0, 817]), (.iconst 5, []), (.if_icmp .lt 8, [2]), (.aload_n 0, []), (.iconst 5, []), (.invokevirtual 91, [0, 68, 1, 4, 0, 0, 733])], 2),
  ([(.aload_n 0, []), (.ldc 228, [1, 21, 21]), (.iconst 1, []), (.bipush 9, []), (.invokevirtual 178, [0, 71, 3, 4, 0, 0, 746]), (.istore 5, []), (.aload_n 0, []), (.ldc 230, [1, 22, 22]), (.iconst 0, []), (.bipush 9, []), (.invokevirtual 178, [0, 71, 3, 4, 0, 0, 746]), (.istore 6, []), (.aload_n 0, []), (.getfield 9, [4, 0, 0, 304]), (.ifCond .ne 42, [3]), (.aload_n 0, []), (.getfield 21, [4, 2, 3, 308]), (.getfield 98, [7, 8, 0, 218]), (.bipush 10, []), (.if_icmp .ge 30, [3]), (.aload_n 0, []), (.getfield 33, [4, 5, 3, 311]), (.aload_n 0, []), (.getfield 21, [4, 2, 3, 308]), (.getfield 98, [7, 8, 0, 218]), (.lload_n 1, []), (.lastore, []), (.aload_n 0, []), (.getfield 21, [4, 2, 3, 308]), (.iload_n 3, []), (.iload 4, []), (.iload 5, []), (.iload 6, []), (.invokevirtual 232, [0, 131, 4, 7, 0, 0, 825])], 3),
  ([(.return_, [])], 0)])
def md_Reader_kindSaid : gD := (yX5_kindSaid, cX5_kindSaid, 1, (some .int), 1, (0, 0), [0, 11, 22, 33, 46, 47], [
  ([(.aload_n 0, []), (.ldc 236, [1, 16, 16]), (.invokevirtual 119, [0, 65, 1, 4, 0, 0, 665]), (.ifCond .eq 5, [1]), (.iconst 0, []), (.ireturn, [])], 0),
  ([(.aload_n 0, []), (.ldc 238, [1, 17, 17]), (.invokevirtual 119, [0, 65, 1, 4, 0, 0, 665]), (.ifCond .eq 5, [2]), (.iconst 1, []), (.ireturn, [])], 0),
  ([(.aload_n 0, []), (.ldc 240, [1, 18, 18]), (.invokevirtual 119, [0, 65, 1, 4, 0, 0, 665]), (.ifCond .eq 5, [3]), (.iconst 2, []), (.ireturn, [])], 0),
  ([(.aload_n 0, []), (.ldc 242, [1, 19, 19]), (.invokevirtual 119, [0, 65, 1, 4, 0, 0, 665]), (.ifCond .eq 7, [4]), (.iconst 3, []), (.goto 4, [5])], 0),
  ([(.iconst (-1), [])], 5),
  ([(.ireturn, [])], 0)])
def md_Reader_toldHouse : gD := (yX5_toldHouse, cX5_toldHouse, 1, (some .int), 1, (0, 0), [0], [
  ([(.aload_n 0, []), (.invokevirtual 281, [0, 76, 0, 4, 0, 0, 769]), (.aload_n 0, []), (.aload_n 0, []), (.aload_n 0, []), (.getfield 29, [4, 4, 3, 310]), (.aload_n 0, []), (.getfield 21, [4, 2, 3, 308]), (.getfield 95, [7, 1, 0, 187]), (.invokevirtual 284, [0, 77, 2, 4, 0, 0, 773]), (.invokevirtual 288, [0, 81, 1, 4, 0, 0, 805]), (.ireturn, [])], 0)])
def md_Reader_known : gD := (yX5_known, cX5_known, 2, (some .int), 2, (0, 0), [0, 10, 21, 22], [
  ([(.iload_n 1, []), (.iconst (-1), []), (.if_icmp .ne 8, [1]), (.aload_n 0, []), (.iconst 2, []), (.invokevirtual 91, [0, 68, 1, 4, 0, 0, 733])], 1),
  ([(.aload_n 0, []), (.getfield 9, [4, 0, 0, 304]), (.ifCond .ne 7, [2]), (.iload_n 1, []), (.goto 4, [3])], 0),
  ([(.iconst 0, [])], 3),
  ([(.ireturn, [])], 0)])
def md_Reader_readFoes : gD := (yX5_readFoes, cX5_readFoes, 3, none, 1, (0, 0), [0, 31, 36, 62], [
  ([(.aload_n 0, []), (.invokevirtual 244, [0, 83, 0, 4, 0, 0, 833]), (.istore_n 1, []), (.aload_n 0, []), (.invokevirtual 244, [0, 83, 0, 4, 0, 0, 833]), (.istore_n 2, []), (.iload_n 1, []), (.iload_n 2, []), (.if_icmp .eq 19, [1]), (.aload_n 0, []), (.getfield 21, [4, 2, 3, 308]), (.getfield 247, [7, 13, 3, 236]), (.iload_n 1, []), (.iaload, []), (.iload_n 2, []), (.ishr, []), (.iconst 1, []), (.iand, []), (.ifCond .eq 8, [2])], 1),
  ([(.aload_n 0, []), (.iconst 3, []), (.invokevirtual 91, [0, 68, 1, 4, 0, 0, 733])], 2),
  ([(.aload_n 0, []), (.getfield 9, [4, 0, 0, 304]), (.ifCond .ne 22, [3]), (.aload_n 0, []), (.getfield 21, [4, 2, 3, 308]), (.iload_n 1, []), (.iload_n 2, []), (.invokevirtual 249, [0, 132, 2, 7, 0, 0, 837]), (.aload_n 0, []), (.dup, []), (.getfield 56, [4, 12, 0, 318]), (.iconst 1, []), (.iadd, []), (.putfield 56, [4, 12, 0, 318])], 3),
  ([(.return_, [])], 0)])
def md_Reader_toldPerson : gD := (yX5_toldPerson, cX5_toldPerson, 1, (some .int), 1, (0, 0), [0], [
  ([(.aload_n 0, []), (.invokevirtual 281, [0, 76, 0, 4, 0, 0, 769]), (.aload_n 0, []), (.aload_n 0, []), (.aload_n 0, []), (.getfield 33, [4, 5, 3, 311]), (.aload_n 0, []), (.getfield 21, [4, 2, 3, 308]), (.getfield 98, [7, 8, 0, 218]), (.invokevirtual 284, [0, 77, 2, 4, 0, 0, 773]), (.invokevirtual 288, [0, 81, 1, 4, 0, 0, 805]), (.ireturn, [])], 0)])
def md_Reader_readWants : gD := (yX5_readWants, cX5_readWants, 4, none, 1, (0, 0), [0, 27, 73], [
  ([(.aload_n 0, []), (.invokevirtual 244, [0, 83, 0, 4, 0, 0, 833]), (.istore_n 1, []), (.aload_n 0, []), (.invokevirtual 214, [0, 80, 0, 4, 0, 0, 801]), (.istore_n 2, []), (.aload_n 0, []), (.getfield 21, [4, 2, 3, 308]), (.iload_n 1, []), (.iload_n 2, []), (.invokevirtual 252, [0, 133, 2, 7, 0, 0, 845]), (.ifCond .eq 8, [1]), (.aload_n 0, []), (.iconst 3, []), (.invokevirtual 91, [0, 68, 1, 4, 0, 0, 733])], 1),
  ([(.aload_n 0, []), (.iload_n 1, []), (.iload_n 2, []), (.invokevirtual 255, [0, 85, 2, 4, 0, 0, 849]), (.aload_n 0, []), (.iconst 1, []), (.bipush 9, []), (.invokevirtual 258, [0, 73, 2, 4, 0, 0, 754]), (.istore_n 3, []), (.aload_n 0, []), (.getfield 9, [4, 0, 0, 304]), (.ifCond .ne 28, [2]), (.aload_n 0, []), (.getfield 21, [4, 2, 3, 308]), (.getfield 261, [7, 16, 3, 244]), (.iload_n 1, []), (.bipush 6, []), (.imul, []), (.iload_n 2, []), (.iadd, []), (.iload_n 3, []), (.iastore, []), (.aload_n 0, []), (.dup, []), (.getfield 59, [4, 13, 0, 319]), (.iconst 1, []), (.iadd, []), (.putfield 59, [4, 13, 0, 319])], 2),
  ([(.return_, [])], 0)])
def md_Reader_refuseOwnSide : gD := (yX5_refuseOwnSide, cX5_refuseOwnSide, 3, none, 3, (0, 0), [0, 33], [
  ([(.aload_n 0, []), (.getfield 9, [4, 0, 0, 304]), (.ifCond .ne 29, [1]), (.aload_n 0, []), (.getfield 21, [4, 2, 3, 308]), (.iload_n 1, []), (.invokevirtual 278, [0, 130, 1, 7, 0, 0, 853]), (.aload_n 0, []), (.getfield 21, [4, 2, 3, 308]), (.getfield 217, [7, 2, 3, 194]), (.iload_n 2, []), (.iaload, []), (.if_icmp .ne 9, [1]), (.aload_n 0, []), (.bipush 7, []), (.invokevirtual 91, [0, 68, 1, 4, 0, 0, 733])], 1),
  ([(.return_, [])], 0)])
def md_Reader_readKeeps : gD := (yX5_readKeeps, cX5_readKeeps, 4, none, 1, (0, 0), [0, 28, 30, 64, 70], [
  ([(.aload_n 0, []), (.invokevirtual 214, [0, 80, 0, 4, 0, 0, 801]), (.istore_n 1, []), (.aload_n 0, []), (.getfield 9, [4, 0, 0, 304]), (.ifCond .ne 19, [1]), (.aload_n 0, []), (.getfield 21, [4, 2, 3, 308]), (.iload_n 1, []), (.invokevirtual 263, [0, 134, 1, 7, 0, 0, 858]), (.ifCond .eq 8, [1]), (.aload_n 0, []), (.iconst 3, []), (.invokevirtual 91, [0, 68, 1, 4, 0, 0, 733])], 1),
  ([(.iconst 0, []), (.istore_n 2, [])], 2),
  ([(.iload_n 2, []), (.iconst 4, []), (.if_icmp .ge 38, [4]), (.aload_n 0, []), (.iconst 0, []), (.bipush 99, []), (.invokevirtual 258, [0, 73, 2, 4, 0, 0, 754]), (.istore_n 3, []), (.aload_n 0, []), (.getfield 9, [4, 0, 0, 304]), (.ifCond .ne 17, [3]), (.aload_n 0, []), (.getfield 21, [4, 2, 3, 308]), (.getfield 266, [7, 5, 3, 203]), (.iload_n 1, []), (.iconst 4, []), (.imul, []), (.iload_n 2, []), (.iadd, []), (.iload_n 3, []), (.iastore, [])], 3),
  ([(.iinc 2 1, []), (.goto (-37), [2])], 0),
  ([(.return_, [])], 0)])
def md_Reader_readIll : gD := (yX5_readIll, cX5_readIll, 1, none, 1, (0, 0), [0], [
  ([(.aload_n 0, []), (.iconst 1, []), (.putfield 53, [4, 11, 1, 317]), (.aload_n 0, []), (.getfield 21, [4, 2, 3, 308]), (.getfield 173, [7, 0, 3, 184]), (.iconst 4, []), (.aload_n 0, []), (.iconst 0, []), (.bipush 100, []), (.invokevirtual 258, [0, 73, 2, 4, 0, 0, 754]), (.iastore, []), (.return_, [])], 0)])
def md_Reader_readShoe : gD := (yX5_readShoe, cX5_readShoe, 3, none, 1, (0, 0), [0, 51], [
  ([(.aload_n 0, []), (.invokevirtual 244, [0, 83, 0, 4, 0, 0, 833]), (.istore_n 1, []), (.aload_n 0, []), (.invokevirtual 214, [0, 80, 0, 4, 0, 0, 801]), (.istore_n 2, []), (.aload_n 0, []), (.iload_n 1, []), (.iload_n 2, []), (.invokevirtual 255, [0, 85, 2, 4, 0, 0, 849]), (.aload_n 0, []), (.getfield 9, [4, 0, 0, 304]), (.ifCond .ne 31, [1]), (.aload_n 0, []), (.getfield 21, [4, 2, 3, 308]), (.getfield 268, [7, 17, 3, 247]), (.iload_n 1, []), (.dup2, []), (.iaload, []), (.iconst 1, []), (.iload_n 2, []), (.ishl, []), (.ior, []), (.iastore, []), (.aload_n 0, []), (.getfield 21, [4, 2, 3, 308]), (.dup, []), (.getfield 170, [7, 19, 0, 252]), (.iconst 1, []), (.iadd, []), (.putfield 170, [7, 19, 0, 252])], 1),
  ([(.return_, [])], 0)])
def md_Reader_readCold : gD := (yX5_readCold, cX5_readCold, 3, none, 1, (0, 0), [0, 67], [
  ([(.aload_n 0, []), (.invokevirtual 214, [0, 80, 0, 4, 0, 0, 801]), (.istore_n 1, []), (.aload_n 0, []), (.iconst 0, []), (.aload_n 0, []), (.getfield 21, [4, 2, 3, 308]), (.getfield 271, [7, 3, 3, 197]), (.iload_n 1, []), (.iaload, []), (.iconst 1, []), (.isub, []), (.invokevirtual 258, [0, 73, 2, 4, 0, 0, 754]), (.istore_n 2, []), (.aload_n 0, []), (.getfield 9, [4, 0, 0, 304]), (.ifCond .ne 41, [1]), (.aload_n 0, []), (.getfield 21, [4, 2, 3, 308]), (.dup, []), (.getfield 273, [7, 18, 0, 250]), (.iconst 1, []), (.aload_n 0, []), (.getfield 21, [4, 2, 3, 308]), (.getfield 275, [7, 4, 3, 200]), (.iload_n 1, []), (.iaload, []), (.iload_n 2, []), (.iadd, []), (.ishl, []), (.ior, []), (.putfield 273, [7, 18, 0, 250]), (.aload_n 0, []), (.getfield 21, [4, 2, 3, 308]), (.dup, []), (.getfield 170, [7, 19, 0, 252]), (.iconst 1, []), (.iadd, []), (.putfield 170, [7, 19, 0, 252])], 1),
  ([(.return_, [])], 0)])
def md_Reader_closeLine : gD := (yX5_closeLine, cX5_closeLine, 1, none, 1, (0, 0), [0, 24], [
  ([(.aload_n 0, []), (.invokevirtual 80, [0, 62, 0, 4, 0, 0, 652]), (.aload_n 0, []), (.getfield 42, [4, 8, 0, 314]), (.iconst 3, []), (.if_icmp .eq 15, [1]), (.aload_n 0, []), (.getfield 42, [4, 8, 0, 314]), (.ifCond .eq 8, [1]), (.aload_n 0, []), (.iconst 1, []), (.invokevirtual 91, [0, 68, 1, 4, 0, 0, 733])], 1),
  ([(.return_, [])], 0)])
def md_Reader_finish : gD := (yX5_finish, cX5_finish, 1, (some .boolean), 1, (0, 0), [0, 20, 26, 44, 45], [
  ([(.aload_n 0, []), (.getfield 21, [4, 2, 3, 308]), (.getfield 95, [7, 1, 0, 187]), (.ifCond .eq 13, [1]), (.aload_n 0, []), (.getfield 21, [4, 2, 3, 308]), (.getfield 98, [7, 8, 0, 218]), (.ifCond .ne 9, [2])], 1),
  ([(.aload_n 0, []), (.bipush 6, []), (.invokevirtual 91, [0, 68, 1, 4, 0, 0, 733])], 2),
  ([(.aload_n 0, []), (.getfield 21, [4, 2, 3, 308]), (.invokevirtual 101, [0, 135, 0, 7, 0, 0, 882]), (.aload_n 0, []), (.getfield 9, [4, 0, 0, 304]), (.ifCond .ne 7, [3]), (.iconst 1, []), (.goto 4, [4])], 0),
  ([(.iconst 0, [])], 4),
  ([(.ireturn, [])], 0)])
def md_Reader_handOver : gD := (yX5_handOver, cX5_handOver, 3, (some (.object "OtherTown$Towns")), 2, (0, 0), [0], [
  ([(.aload_n 0, []), (.getfield 21, [4, 2, 3, 308]), (.astore_n 2, []), (.aload_n 0, []), (.aload_n 1, []), (.putfield 21, [4, 2, 3, 308]), (.aload_n 2, []), (.areturn, [])], 0)])
def md_Score_init : gD := (yX6_init, cX6_init, 1, none, 1, (0, 0), [0], [
  ([(.aload_n 0, []), (.invokespecial 1, [4, 430]), (.aload_n 0, []), (.iconst 0, []), (.putfield 7, [5, 0, 0, 431]), (.aload_n 0, []), (.iconst 0, []), (.putfield 13, [5, 1, 0, 433]), (.aload_n 0, []), (.iconst 0, []), (.putfield 16, [5, 2, 0, 434]), (.return_, [])], 0)])
def md_Score_beatsWith : gD := (yX6_beatsWith, cX6_beatsWith, 3, (some .boolean), 3, (0, 0), [0, 36, 37, 38, 74, 75, 76, 96, 97], [
  ([(.aload_n 0, []), (.getfield 7, [5, 0, 0, 431]), (.aload_n 1, []), (.getfield 7, [5, 0, 0, 431]), (.iadd, []), (.aload_n 2, []), (.getfield 7, [5, 0, 0, 431]), (.if_icmp .eq 25, [3]), (.aload_n 0, []), (.getfield 7, [5, 0, 0, 431]), (.aload_n 1, []), (.getfield 7, [5, 0, 0, 431]), (.iadd, []), (.aload_n 2, []), (.getfield 7, [5, 0, 0, 431]), (.if_icmp .ge 7, [1]), (.iconst 1, []), (.goto 4, [2])], 0),
  ([(.iconst 0, [])], 2),
  ([(.ireturn, [])], 0),
  ([(.aload_n 0, []), (.getfield 13, [5, 1, 0, 433]), (.aload_n 1, []), (.getfield 13, [5, 1, 0, 433]), (.iadd, []), (.aload_n 2, []), (.getfield 13, [5, 1, 0, 433]), (.if_icmp .eq 25, [6]), (.aload_n 0, []), (.getfield 13, [5, 1, 0, 433]), (.aload_n 1, []), (.getfield 13, [5, 1, 0, 433]), (.iadd, []), (.aload_n 2, []), (.getfield 13, [5, 1, 0, 433]), (.if_icmp .ge 7, [4]), (.iconst 1, []), (.goto 4, [5])], 0),
  ([(.iconst 0, [])], 5),
  ([(.ireturn, [])], 0),
  ([(.aload_n 0, []), (.getfield 16, [5, 2, 0, 434]), (.aload_n 1, []), (.getfield 16, [5, 2, 0, 434]), (.iadd, []), (.aload_n 2, []), (.getfield 16, [5, 2, 0, 434]), (.if_icmp .le 7, [7]), (.iconst 1, []), (.goto 4, [8])], 0),
  ([(.iconst 0, [])], 8),
  ([(.ireturn, [])], 0)])
def md_Score_copyFrom : gD := (yX6_copyFrom, cX6_copyFrom, 2, none, 2, (0, 0), [0], [
  ([(.aload_n 0, []), (.aload_n 1, []), (.getfield 7, [5, 0, 0, 431]), (.putfield 7, [5, 0, 0, 431]), (.aload_n 0, []), (.aload_n 1, []), (.getfield 13, [5, 1, 0, 433]), (.putfield 13, [5, 1, 0, 433]), (.aload_n 0, []), (.aload_n 1, []), (.getfield 16, [5, 2, 0, 434]), (.putfield 16, [5, 2, 0, 434]), (.return_, [])], 0)])
def md_Score_add : gD := (yX6_add, cX6_add, 4, none, 4, (0, 0), [0], [
  ([(.aload_n 0, []), (.dup, []), (.getfield 7, [5, 0, 0, 431]), (.iload_n 1, []), (.iadd, []), (.putfield 7, [5, 0, 0, 431]), (.aload_n 0, []), (.dup, []), (.getfield 13, [5, 1, 0, 433]), (.iload_n 2, []), (.iadd, []), (.putfield 13, [5, 1, 0, 433]), (.aload_n 0, []), (.dup, []), (.getfield 16, [5, 2, 0, 434]), (.iload_n 3, []), (.iadd, []), (.putfield 16, [5, 2, 0, 434]), (.return_, [])], 0)])
def md_Score_set : gD := (yX6_set, cX6_set, 4, none, 4, (0, 0), [0], [
  ([(.aload_n 0, []), (.iload_n 1, []), (.putfield 7, [5, 0, 0, 431]), (.aload_n 0, []), (.iload_n 2, []), (.putfield 13, [5, 1, 0, 433]), (.aload_n 0, []), (.iload_n 3, []), (.putfield 16, [5, 2, 0, 434]), (.return_, [])], 0)])
def md_State_init : gD := (yX7_init, cX7_init, 1, none, 1, (5, 250), [0], [
  ([(.aload_n 0, []), (.invokespecial 3, [4, 355]), (.aload_n 0, []), (.bipush 10, []), (.newarray .int, [1]), (.putfield 9, [6, 0, 3, 356]), (.aload_n 0, []), (.bipush 10, []), (.newarray .int, [1]), (.putfield 15, [6, 1, 3, 361]), (.aload_n 0, []), (.bipush 10, []), (.newarray .int, [1]), (.putfield 18, [6, 2, 3, 364]), (.aload_n 0, []), (.bipush 120, []), (.newarray .int, [1]), (.putfield 21, [6, 3, 3, 367]), (.aload_n 0, []), (.bipush 100, []), (.newarray .int, [1]), (.putfield 24, [6, 4, 3, 368]), (.aload_n 0, []), (.iconst 0, []), (.putfield 27, [6, 5, 0, 369]), (.aload_n 0, []), (.iconst 0, []), (.putfield 31, [6, 6, 0, 370]), (.aload_n 0, []), (.iconst 0, []), (.putfield 34, [6, 7, 0, 372]), (.return_, [])], 0)])
def md_State_begin : gD := (yX7_begin, cX7_begin, 3, none, 2, (0, 0), [0, 35, 63], [
  ([(.aload_n 0, []), (.getfield 9, [6, 0, 3, 356]), (.bipush (-2), []), (.invokestatic 37, [1, 342, 2, 0, 0, 894]), (.aload_n 0, []), (.getfield 15, [6, 1, 3, 361]), (.iconst 0, []), (.invokestatic 37, [1, 342, 2, 0, 0, 894]), (.aload_n 0, []), (.getfield 21, [6, 3, 3, 367]), (.iconst 0, []), (.invokestatic 37, [1, 342, 2, 0, 0, 894]), (.aload_n 0, []), (.getfield 24, [6, 4, 3, 368]), (.iconst 0, []), (.invokestatic 37, [1, 342, 2, 0, 0, 894]), (.iconst 0, []), (.istore_n 2, [])], 1),
  ([(.iload_n 2, []), (.aload_n 1, []), (.getfield 43, [7, 8, 0, 214]), (.if_icmp .ge 23, [2]), (.aload_n 0, []), (.getfield 18, [6, 2, 3, 364]), (.iload_n 2, []), (.iconst 1, []), (.aload_n 1, []), (.getfield 48, [7, 10, 3, 224]), (.iload_n 2, []), (.iaload, []), (.ishl, []), (.iastore, []), (.iinc 2 1, []), (.goto (-25), [1])], 0),
  ([(.aload_n 0, []), (.iconst 0, []), (.putfield 27, [6, 5, 0, 369]), (.aload_n 0, []), (.iconst 0, []), (.putfield 31, [6, 6, 0, 370]), (.aload_n 0, []), (.iconst 0, []), (.putfield 34, [6, 7, 0, 372]), (.return_, [])], 0)])
def md_State_isIll : gD := (yX7_isIll, cX7_isIll, 2, (some .boolean), 2, (0, 0), [0, 15, 16], [
  ([(.aload_n 0, []), (.getfield 27, [6, 5, 0, 369]), (.iload_n 1, []), (.ishr, []), (.iconst 1, []), (.iand, []), (.ifCond .eq 7, [1]), (.iconst 1, []), (.goto 4, [2])], 0),
  ([(.iconst 0, [])], 2),
  ([(.ireturn, [])], 0)])
def md_State_firstIn : gD := (yX7_firstIn, cX7_firstIn, 4, (some .int), 3, (0, 0), [0, 2, 22, 28], [
  ([(.iconst 0, []), (.istore_n 3, [])], 1),
  ([(.iload_n 3, []), (.aload_n 1, []), (.getfield 43, [7, 8, 0, 214]), (.if_icmp .ge 21, [3]), (.aload_n 0, []), (.getfield 9, [6, 0, 3, 356]), (.iload_n 3, []), (.iaload, []), (.iload_n 2, []), (.if_icmp .ne 5, [2]), (.iload_n 3, []), (.ireturn, [])], 0),
  ([(.iinc 3 1, []), (.goto (-23), [1])], 0),
  ([(.bipush (-2), []), (.ireturn, [])], 0)])
def md_State_wrongAt : gD := (yX7_wrongAt, cX7_wrongAt, 6, (some .int), 4, (0, 0), [0, 6, 21, 42, 54, 82, 96, 121, 134, 135], [
  ([(.iload_n 3, []), (.ifCond .ge 5, [1]), (.iconst 0, []), (.ireturn, [])], 0),
  ([(.aload_n 1, []), (.iload_n 3, []), (.invokevirtual 64, [0, 136, 1, 7, 0, 0, 979]), (.aload_n 1, []), (.iload_n 2, []), (.invokevirtual 68, [0, 130, 1, 7, 0, 0, 983]), (.if_icmp .ne 5, [2]), (.iconst 1, []), (.ireturn, [])], 0),
  ([(.aload_n 0, []), (.aload_n 1, []), (.iload_n 3, []), (.invokevirtual 71, [0, 101, 2, 6, 0, 0, 984]), (.istore 4, []), (.iload 4, []), (.ifCond .lt 11, [3]), (.iload 4, []), (.iload_n 2, []), (.if_icmp .ge 5, [3]), (.iconst 2, []), (.ireturn, [])], 0),
  ([(.aload_n 0, []), (.aload_n 1, []), (.iload_n 2, []), (.iload_n 3, []), (.invokevirtual 74, [0, 103, 3, 6, 0, 0, 985]), (.ifCond .eq 5, [4]), (.iconst 3, []), (.ireturn, [])], 0),
  ([(.aload_n 0, []), (.aload_n 1, []), (.aload_n 1, []), (.getfield 57, [7, 7, 3, 209]), (.iload_n 3, []), (.iaload, []), (.iload_n 2, []), (.invokevirtual 78, [0, 105, 3, 6, 0, 0, 993]), (.istore 5, []), (.iload 5, []), (.aload_n 1, []), (.getfield 82, [7, 13, 3, 234]), (.iload_n 2, []), (.iaload, []), (.iand, []), (.ifCond .eq 5, [5]), (.iconst 4, []), (.ireturn, [])], 0),
  ([(.iload 5, []), (.aload_n 1, []), (.getfield 85, [7, 14, 3, 238]), (.iload_n 2, []), (.iaload, []), (.iand, []), (.ifCond .eq 5, [6]), (.iconst 5, []), (.ireturn, [])], 0),
  ([(.aload_n 1, []), (.getfield 88, [7, 9, 3, 221]), (.iload_n 2, []), (.iaload, []), (.iconst 3, []), (.if_icmp .ne 18, [7]), (.iload 5, []), (.aload_n 1, []), (.getfield 91, [7, 15, 3, 241]), (.iload_n 2, []), (.iaload, []), (.iand, []), (.ifCond .ne 6, [7]), (.bipush 6, []), (.ireturn, [])], 0),
  ([(.aload_n 0, []), (.iload_n 2, []), (.invokevirtual 94, [0, 100, 1, 6, 0, 0, 1001]), (.ifCond .eq 8, [8]), (.bipush 7, []), (.goto 4, [9])], 0),
  ([(.iconst 0, [])], 9),
  ([(.ireturn, [])], 0)])
def md_State_sleptLately : gD := (yX7_sleptLately, cX7_sleptLately, 5, (some .boolean), 4, (0, 0), [0, 28, 29], [
  ([(.aload_n 0, []), (.iload_n 2, []), (.iload_n 3, []), (.invokevirtual 98, [0, 104, 2, 6, 0, 0, 989]), (.istore 4, []), (.iload 4, []), (.ifCond .le 18, [1]), (.iload 4, []), (.aload_n 1, []), (.getfield 102, [7, 0, 3, 183]), (.iconst 1, []), (.iaload, []), (.if_icmp .gt 7, [1]), (.iconst 1, []), (.goto 4, [2])], 0),
  ([(.iconst 0, [])], 2),
  ([(.ireturn, [])], 0)])
def md_State_nightsAgo : gD := (yX7_nightsAgo, cX7_nightsAgo, 4, (some .int), 3, (0, 0), [0, 21, 29], [
  ([(.aload_n 0, []), (.getfield 21, [6, 3, 3, 367]), (.iload_n 1, []), (.bipush 12, []), (.imul, []), (.iload_n 2, []), (.iadd, []), (.iaload, []), (.istore_n 3, []), (.iload_n 3, []), (.ifCond .ne 8, [1]), (.bipush (-2), []), (.goto 11, [2])], 0),
  ([(.aload_n 0, []), (.getfield 34, [6, 7, 0, 372]), (.iload_n 3, []), (.isub, []), (.iconst 1, []), (.iadd, [])], 2),
  ([(.ireturn, [])], 0)])
def md_State_othersIn : gD := (yX7_othersIn, cX7_othersIn, 6, (some .int), 4, (0, 0), [0, 6, 41, 47], [
  ([(.iconst 0, []), (.istore 4, []), (.iconst 0, []), (.istore 5, [])], 1),
  ([(.iload 5, []), (.aload_n 1, []), (.getfield 43, [7, 8, 0, 214]), (.if_icmp .ge 35, [3]), (.iload 5, []), (.iload_n 3, []), (.if_icmp .eq 23, [2]), (.aload_n 0, []), (.aload_n 1, []), (.iload 5, []), (.invokevirtual 60, [0, 106, 2, 6, 0, 0, 997]), (.iload_n 2, []), (.if_icmp .ne 12, [2]), (.iload 4, []), (.iconst 1, []), (.iload 5, []), (.ishl, []), (.ior, []), (.istore 4, [])], 2),
  ([(.iinc 5 1, []), (.goto (-38), [1])], 0),
  ([(.iload 4, []), (.ireturn, [])], 0)])
def md_State_houseOfSleeper : gD := (yX7_houseOfSleeper, cX7_houseOfSleeper, 3, (some .int), 3, (0, 0), [0, 23, 24], [
  ([(.aload_n 0, []), (.getfield 9, [6, 0, 3, 356]), (.iload_n 2, []), (.iaload, []), (.ifCond .lt 17, [1]), (.aload_n 1, []), (.getfield 57, [7, 7, 3, 209]), (.aload_n 0, []), (.getfield 9, [6, 0, 3, 356]), (.iload_n 2, []), (.iaload, []), (.iaload, []), (.goto 4, [2])], 0),
  ([(.iconst (-1), [])], 2),
  ([(.ireturn, [])], 0)])
def md_State_firstWronged : gD := (yX7_firstWronged, cX7_firstWronged, 3, (some .int), 2, (0, 0), [0, 2, 27, 33], [
  ([(.iconst 0, []), (.istore_n 2, [])], 1),
  ([(.iload_n 2, []), (.aload_n 1, []), (.getfield 43, [7, 8, 0, 214]), (.if_icmp .ge 26, [3]), (.aload_n 0, []), (.aload_n 1, []), (.iload_n 2, []), (.aload_n 0, []), (.getfield 9, [6, 0, 3, 356]), (.iload_n 2, []), (.iaload, []), (.invokevirtual 105, [0, 102, 3, 6, 0, 0, 1014]), (.ifCond .eq 5, [2]), (.iload_n 2, []), (.ireturn, [])], 0),
  ([(.iinc 2 1, []), (.goto (-28), [1])], 0),
  ([(.bipush (-2), []), (.ireturn, [])], 0)])
def md_State_worthOf : gD := (yX7_worthOf, cX7_worthOf, 5, (some .int), 3, (0, 0), [0, 5, 55, 61], [
  ([(.iconst 0, []), (.istore_n 3, []), (.iconst 0, []), (.istore 4, [])], 1),
  ([(.iload 4, []), (.aload_n 1, []), (.getfield 43, [7, 8, 0, 214]), (.if_icmp .ge 50, [3]), (.aload_n 0, []), (.getfield 9, [6, 0, 3, 356]), (.iload 4, []), (.iaload, []), (.ifCond .lt 34, [2]), (.aload_n 1, []), (.iload 4, []), (.invokevirtual 68, [0, 130, 1, 7, 0, 0, 983]), (.iload_n 2, []), (.if_icmp .ne 24, [2]), (.iload_n 3, []), (.aload_n 1, []), (.iload 4, []), (.aload_n 1, []), (.getfield 57, [7, 7, 3, 209]), (.aload_n 0, []), (.getfield 9, [6, 0, 3, 356]), (.iload 4, []), (.iaload, []), (.iaload, []), (.invokevirtual 108, [0, 133, 2, 7, 0, 0, 1031]), (.iadd, []), (.istore_n 3, [])], 2),
  ([(.iinc 4 1, []), (.goto (-53), [1])], 0),
  ([(.iload_n 3, []), (.ireturn, [])], 0)])
def md_State_housesSlept : gD := (yX7_housesSlept, cX7_housesSlept, 5, (some .int), 3, (0, 0), [0, 5, 41, 47], [
  ([(.iconst 0, []), (.istore_n 3, []), (.iconst 0, []), (.istore 4, [])], 1),
  ([(.iload 4, []), (.aload_n 1, []), (.getfield 111, [7, 6, 0, 206]), (.if_icmp .ge 36, [3]), (.aload_n 0, []), (.getfield 21, [6, 3, 3, 367]), (.iload_n 2, []), (.bipush 12, []), (.imul, []), (.iload 4, []), (.iadd, []), (.iaload, []), (.ifCond .eq 15, [2]), (.iload_n 3, []), (.iconst 1, []), (.aload_n 1, []), (.getfield 57, [7, 7, 3, 209]), (.iload 4, []), (.iaload, []), (.ishl, []), (.ior, []), (.istore_n 3, [])], 2),
  ([(.iinc 4 1, []), (.goto (-39), [1])], 0),
  ([(.iload_n 3, []), (.ireturn, [])], 0)])
def md_State_leaksOf : gD := (yX7_leaksOf, cX7_leaksOf, 5, (some .int), 3, (0, 0), [0, 5, 43, 49], [
  ([(.iconst 0, []), (.istore_n 3, []), (.iconst 0, []), (.istore 4, [])], 1),
  ([(.iload 4, []), (.aload_n 1, []), (.getfield 43, [7, 8, 0, 214]), (.if_icmp .ge 38, [3]), (.aload_n 1, []), (.iload 4, []), (.invokevirtual 68, [0, 130, 1, 7, 0, 0, 983]), (.aload_n 1, []), (.getfield 117, [7, 2, 3, 193]), (.iload_n 2, []), (.iaload, []), (.if_icmp .eq 17, [2]), (.iload_n 3, []), (.aload_n 0, []), (.getfield 18, [6, 2, 3, 364]), (.iload 4, []), (.iaload, []), (.iload_n 2, []), (.ishr, []), (.iconst 1, []), (.iand, []), (.iadd, []), (.istore_n 3, [])], 2),
  ([(.iinc 4 1, []), (.goto (-41), [1])], 0),
  ([(.iload_n 3, []), (.ireturn, [])], 0)])
def md_State_isPeace : gD := (yX7_isPeace, cX7_isPeace, 4, (some .boolean), 2, (0, 0), [0, 2, 46, 52], [
  ([(.iconst 0, []), (.istore_n 2, [])], 1),
  ([(.iload_n 2, []), (.aload_n 1, []), (.getfield 43, [7, 8, 0, 214]), (.if_icmp .ge 45, [3]), (.aload_n 1, []), (.getfield 102, [7, 0, 3, 183]), (.iconst 0, []), (.iaload, []), (.aload_n 1, []), (.iconst 1, []), (.aload_n 1, []), (.iload_n 2, []), (.invokevirtual 68, [0, 130, 1, 7, 0, 0, 983]), (.isub, []), (.invokevirtual 120, [0, 137, 1, 7, 0, 0, 1165]), (.invokestatic 123, [6, 1169]), (.istore_n 3, []), (.aload_n 0, []), (.aload_n 1, []), (.iload_n 2, []), (.invokevirtual 114, [0, 109, 2, 6, 0, 0, 1170]), (.invokestatic 128, [1, 343, 1, 0, 0, 1171]), (.iload_n 3, []), (.if_icmp .ge 5, [2]), (.iconst 0, []), (.ireturn, [])], 0),
  ([(.iinc 2 1, []), (.goto (-47), [1])], 0),
  ([(.iconst 1, []), (.ireturn, [])], 0)])
def md_State_guestsOf : gD := (yX7_guestsOf, cX7_guestsOf, 5, (some .int), 3, (0, 0), [0, 5, 37], [
  ([(.iconst 0, []), (.istore_n 3, []), (.iconst 0, []), (.istore 4, [])], 1),
  ([(.iload 4, []), (.aload_n 1, []), (.getfield 43, [7, 8, 0, 214]), (.if_icmp .ge 26, [2]), (.iload_n 3, []), (.aload_n 0, []), (.aload_n 1, []), (.iload 4, []), (.invokevirtual 114, [0, 109, 2, 6, 0, 0, 1170]), (.iload_n 2, []), (.ishr, []), (.iconst 1, []), (.iand, []), (.iload 4, []), (.ishl, []), (.ior, []), (.istore_n 3, []), (.iinc 4 1, []), (.goto (-29), [1])], 0),
  ([(.iload_n 3, []), (.ireturn, [])], 0)])
def md_State_metOf : gD := (yX7_metOf, cX7_metOf, 3, (some .int), 3, (0, 0), [0], [
  ([(.aload_n 0, []), (.getfield 24, [6, 4, 3, 368]), (.iload_n 1, []), (.iload_n 2, []), (.invokestatic 123, [6, 1169]), (.bipush 10, []), (.imul, []), (.iload_n 1, []), (.iload_n 2, []), (.invokestatic 133, [5, 1188]), (.iadd, []), (.iaload, []), (.ireturn, [])], 0)])
def md_State_fairness : gD := (yX7_fairness, cX7_fairness, 6, (some .int), 3, (0, 0), [0, 8, 54, 66, 68, 74], [
  ([(.iconst (-1), []), (.istore_n 3, []), (.iconst (-1), []), (.istore 4, []), (.iconst 0, []), (.istore 5, [])], 1),
  ([(.iload 5, []), (.aload_n 1, []), (.getfield 43, [7, 8, 0, 214]), (.if_icmp .ge 60, [5]), (.aload_n 1, []), (.iload 5, []), (.invokevirtual 68, [0, 130, 1, 7, 0, 0, 983]), (.iload_n 2, []), (.if_icmp .ne 44, [4]), (.iload_n 3, []), (.aload_n 0, []), (.getfield 15, [6, 1, 3, 361]), (.iload 5, []), (.iaload, []), (.invokestatic 133, [5, 1188]), (.istore_n 3, []), (.iload 4, []), (.ifCond .ge 13, [2]), (.aload_n 0, []), (.getfield 15, [6, 1, 3, 361]), (.iload 5, []), (.iaload, []), (.goto 15, [3])], 0),
  ([(.iload 4, []), (.aload_n 0, []), (.getfield 15, [6, 1, 3, 361]), (.iload 5, []), (.iaload, []), (.invokestatic 123, [6, 1169])], 3),
  ([(.istore 4, [])], 4),
  ([(.iinc 5 1, []), (.goto (-63), [1])], 0),
  ([(.iload_n 3, []), (.iload 4, []), (.isub, []), (.ireturn, [])], 0)])
def md_State_bestSwap : gD := (yX7_bestSwap, cX7_bestSwap, 8, (some .int), 3, (0, 0), [0, 14, 29, 104, 112, 118, 124], [
  ([(.aload_n 0, []), (.aload_n 1, []), (.iload_n 2, []), (.invokevirtual 136, [0, 108, 2, 6, 0, 0, 1205]), (.istore_n 3, []), (.bipush (-2), []), (.istore 4, []), (.iconst 0, []), (.istore 5, [])], 1),
  ([(.iload 5, []), (.aload_n 1, []), (.getfield 43, [7, 8, 0, 214]), (.if_icmp .ge 104, [6]), (.iload 5, []), (.iconst 1, []), (.iadd, []), (.istore 6, [])], 2),
  ([(.iload 6, []), (.aload_n 1, []), (.getfield 43, [7, 8, 0, 214]), (.if_icmp .ge 83, [5]), (.aload_n 0, []), (.aload_n 1, []), (.iload 5, []), (.iload_n 2, []), (.invokevirtual 139, [0, 116, 3, 6, 0, 0, 1206]), (.ifCond .eq 66, [4]), (.aload_n 0, []), (.aload_n 1, []), (.iload 6, []), (.iload_n 2, []), (.invokevirtual 139, [0, 116, 3, 6, 0, 0, 1206]), (.ifCond .eq 55, [4]), (.aload_n 0, []), (.iload 5, []), (.iload 6, []), (.invokevirtual 142, [0, 117, 2, 6, 0, 0, 1210]), (.aload_n 0, []), (.aload_n 1, []), (.iload_n 2, []), (.invokevirtual 136, [0, 108, 2, 6, 0, 0, 1205]), (.istore 7, []), (.iload 7, []), (.iload_n 3, []), (.if_icmp .le 25, [3]), (.aload_n 0, []), (.aload_n 1, []), (.iload_n 2, []), (.invokevirtual 146, [0, 118, 2, 6, 0, 0, 1214]), (.ifCond .eq 16, [3]), (.iload 7, []), (.istore_n 3, []), (.bipush 100, []), (.iload 5, []), (.imul, []), (.iload 6, []), (.iadd, []), (.istore 4, [])], 3),
  ([(.aload_n 0, []), (.iload 5, []), (.iload 6, []), (.invokevirtual 142, [0, 117, 2, 6, 0, 0, 1210])], 4),
  ([(.iinc 6 1, []), (.goto (-86), [2])], 0),
  ([(.iinc 5 1, []), (.goto (-107), [1])], 0),
  ([(.iload 4, []), (.ireturn, [])], 0)])
def md_State_canChange : gD := (yX7_canChange, cX7_canChange, 4, (some .boolean), 4, (0, 0), [0, 22, 23], [
  ([(.aload_n 0, []), (.getfield 9, [6, 0, 3, 356]), (.iload_n 2, []), (.iaload, []), (.ifCond .lt 16, [1]), (.aload_n 1, []), (.iload_n 2, []), (.invokevirtual 68, [0, 130, 1, 7, 0, 0, 983]), (.iload_n 3, []), (.if_icmp .ne 7, [1]), (.iconst 1, []), (.goto 4, [2])], 0),
  ([(.iconst 0, [])], 2),
  ([(.ireturn, [])], 0)])
def md_State_change : gD := (yX7_change, cX7_change, 4, none, 3, (0, 0), [0], [
  ([(.aload_n 0, []), (.getfield 9, [6, 0, 3, 356]), (.iload_n 1, []), (.iaload, []), (.istore_n 3, []), (.aload_n 0, []), (.getfield 9, [6, 0, 3, 356]), (.iload_n 1, []), (.aload_n 0, []), (.getfield 9, [6, 0, 3, 356]), (.iload_n 2, []), (.iaload, []), (.iastore, []), (.aload_n 0, []), (.getfield 9, [6, 0, 3, 356]), (.iload_n 2, []), (.iload_n 3, []), (.iastore, []), (.return_, [])], 0)])
def md_State_isRight : gD := (yX7_isRight, cX7_isRight, 4, (some .boolean), 3, (0, 0), [0, 2, 36, 42], [
  ([(.iconst 0, []), (.istore_n 3, [])], 1),
  ([(.iload_n 3, []), (.aload_n 1, []), (.getfield 43, [7, 8, 0, 214]), (.if_icmp .ge 35, [3]), (.aload_n 1, []), (.iload_n 3, []), (.invokevirtual 68, [0, 130, 1, 7, 0, 0, 983]), (.iload_n 2, []), (.if_icmp .ne 20, [2]), (.aload_n 0, []), (.aload_n 1, []), (.iload_n 3, []), (.aload_n 0, []), (.getfield 9, [6, 0, 3, 356]), (.iload_n 3, []), (.iaload, []), (.invokevirtual 105, [0, 102, 3, 6, 0, 0, 1014]), (.ifCond .eq 5, [2]), (.iconst 0, []), (.ireturn, [])], 0),
  ([(.iinc 3 1, []), (.goto (-37), [1])], 0),
  ([(.iconst 1, []), (.ireturn, [])], 0)])
def md_State_copyFrom : gD := (yX7_copyFrom, cX7_copyFrom, 2, none, 2, (0, 0), [0], [
  ([(.aload_n 1, []), (.getfield 9, [6, 0, 3, 356]), (.iconst 0, []), (.aload_n 0, []), (.getfield 9, [6, 0, 3, 356]), (.iconst 0, []), (.bipush 10, []), (.invokestatic 51, [7, 1230]), (.aload_n 1, []), (.getfield 15, [6, 1, 3, 361]), (.iconst 0, []), (.aload_n 0, []), (.getfield 15, [6, 1, 3, 361]), (.iconst 0, []), (.bipush 10, []), (.invokestatic 51, [7, 1230]), (.aload_n 1, []), (.getfield 18, [6, 2, 3, 364]), (.iconst 0, []), (.aload_n 0, []), (.getfield 18, [6, 2, 3, 364]), (.iconst 0, []), (.bipush 10, []), (.invokestatic 51, [7, 1230]), (.aload_n 1, []), (.getfield 21, [6, 3, 3, 367]), (.iconst 0, []), (.aload_n 0, []), (.getfield 21, [6, 3, 3, 367]), (.iconst 0, []), (.bipush 120, []), (.invokestatic 51, [7, 1230]), (.aload_n 1, []), (.getfield 24, [6, 4, 3, 368]), (.iconst 0, []), (.aload_n 0, []), (.getfield 24, [6, 4, 3, 368]), (.iconst 0, []), (.bipush 100, []), (.invokestatic 51, [7, 1230]), (.aload_n 0, []), (.aload_n 1, []), (.getfield 27, [6, 5, 0, 369]), (.putfield 27, [6, 5, 0, 369]), (.aload_n 0, []), (.aload_n 1, []), (.getfield 31, [6, 6, 0, 370]), (.putfield 31, [6, 6, 0, 370]), (.aload_n 0, []), (.aload_n 1, []), (.getfield 34, [6, 7, 0, 372]), (.putfield 34, [6, 7, 0, 372]), (.return_, [])], 0)])
def md_State_sleep : gD := (yX7_sleep, cX7_sleep, 3, none, 2, (0, 0), [0, 12, 42, 84, 90], [
  ([(.aload_n 0, []), (.dup, []), (.getfield 34, [6, 7, 0, 372]), (.iconst 1, []), (.iadd, []), (.putfield 34, [6, 7, 0, 372]), (.iconst 0, []), (.istore_n 2, [])], 1),
  ([(.iload_n 2, []), (.aload_n 1, []), (.getfield 43, [7, 8, 0, 214]), (.if_icmp .ge 73, [4]), (.aload_n 0, []), (.getfield 9, [6, 0, 3, 356]), (.iload_n 2, []), (.iaload, []), (.ifCond .ge 16, [2]), (.aload_n 0, []), (.getfield 15, [6, 1, 3, 361]), (.iload_n 2, []), (.dup2, []), (.iaload, []), (.iconst 1, []), (.iadd, []), (.iastore, []), (.goto 45, [3])], 0),
  ([(.aload_n 0, []), (.getfield 21, [6, 3, 3, 367]), (.iload_n 2, []), (.bipush 12, []), (.imul, []), (.aload_n 0, []), (.getfield 9, [6, 0, 3, 356]), (.iload_n 2, []), (.iaload, []), (.iadd, []), (.aload_n 0, []), (.getfield 34, [6, 7, 0, 372]), (.iastore, []), (.aload_n 0, []), (.getfield 18, [6, 2, 3, 364]), (.iload_n 2, []), (.dup2, []), (.iaload, []), (.iconst 1, []), (.aload_n 1, []), (.getfield 57, [7, 7, 3, 209]), (.aload_n 0, []), (.getfield 9, [6, 0, 3, 356]), (.iload_n 2, []), (.iaload, []), (.iaload, []), (.ishl, []), (.ior, []), (.iastore, [])], 3),
  ([(.iinc 2 1, []), (.goto (-75), [1])], 0),
  ([(.aload_n 0, []), (.aload_n 1, []), (.invokevirtual 150, [0, 121, 1, 6, 0, 0, 1251]), (.aload_n 0, []), (.aload_n 1, []), (.iconst 0, []), (.invokevirtual 154, [0, 122, 2, 6, 0, 0, 1255]), (.aload_n 0, []), (.aload_n 1, []), (.iconst 1, []), (.invokevirtual 154, [0, 122, 2, 6, 0, 0, 1255]), (.aload_n 0, []), (.aload_n 1, []), (.invokevirtual 158, [0, 124, 1, 6, 0, 0, 1263]), (.return_, [])], 0)])
def md_State_meet : gD := (yX7_meet, cX7_meet, 4, none, 2, (0, 0), [0, 2, 14, 61, 67, 73], [
  ([(.iconst 0, []), (.istore_n 2, [])], 1),
  ([(.iload_n 2, []), (.aload_n 1, []), (.getfield 43, [7, 8, 0, 214]), (.if_icmp .ge 66, [5]), (.iload_n 2, []), (.iconst 1, []), (.iadd, []), (.istore_n 3, [])], 2),
  ([(.iload_n 3, []), (.aload_n 1, []), (.getfield 43, [7, 8, 0, 214]), (.if_icmp .ge 48, [4]), (.aload_n 0, []), (.getfield 9, [6, 0, 3, 356]), (.iload_n 2, []), (.iaload, []), (.ifCond .lt 33, [3]), (.aload_n 0, []), (.aload_n 1, []), (.iload_n 2, []), (.invokevirtual 60, [0, 106, 2, 6, 0, 0, 997]), (.aload_n 0, []), (.aload_n 1, []), (.iload_n 3, []), (.invokevirtual 60, [0, 106, 2, 6, 0, 0, 997]), (.if_icmp .ne 18, [3]), (.aload_n 0, []), (.getfield 24, [6, 4, 3, 368]), (.iload_n 2, []), (.bipush 10, []), (.imul, []), (.iload_n 3, []), (.iadd, []), (.dup2, []), (.iaload, []), (.iconst 1, []), (.iadd, []), (.iastore, [])], 3),
  ([(.iinc 3 1, []), (.goto (-50), [2])], 0),
  ([(.iinc 2 1, []), (.goto (-68), [1])], 0),
  ([(.return_, [])], 0)])
def md_State_tellAll : gD := (yX7_tellAll, cX7_tellAll, 6, none, 3, (0, 0), [0, 2, 16, 49, 50, 59, 62, 94, 101, 108, 114], [
  ([(.iconst 0, []), (.istore_n 3, [])], 1),
  ([(.iload_n 3, []), (.aload_n 1, []), (.getfield 43, [7, 8, 0, 214]), (.if_icmp .ge 107, [10]), (.iconst 0, []), (.istore 4, []), (.iload_n 3, []), (.istore 5, [])], 2),
  ([(.iload 5, []), (.aload_n 1, []), (.getfield 43, [7, 8, 0, 214]), (.if_icmp .ge 37, [5]), (.iload 4, []), (.aload_n 0, []), (.aload_n 1, []), (.iload_n 3, []), (.iload 5, []), (.iload_n 2, []), (.invokevirtual 161, [0, 123, 4, 6, 0, 0, 1259]), (.ifCond .eq 13, [3]), (.aload_n 0, []), (.getfield 18, [6, 2, 3, 364]), (.iload 5, []), (.iaload, []), (.goto 4, [4])], 0),
  ([(.iconst 0, [])], 4),
  ([(.ior, []), (.istore 4, []), (.iinc 5 1, []), (.goto (-40), [2])], 0),
  ([(.iload_n 3, []), (.istore 5, [])], 6),
  ([(.iload 5, []), (.aload_n 1, []), (.getfield 43, [7, 8, 0, 214]), (.if_icmp .ge 40, [9]), (.aload_n 0, []), (.getfield 18, [6, 2, 3, 364]), (.iload 5, []), (.aload_n 0, []), (.aload_n 1, []), (.iload_n 3, []), (.iload 5, []), (.iload_n 2, []), (.invokevirtual 161, [0, 123, 4, 6, 0, 0, 1259]), (.ifCond .eq 8, [7]), (.iload 4, []), (.goto 10, [8])], 0),
  ([(.aload_n 0, []), (.getfield 18, [6, 2, 3, 364]), (.iload 5, []), (.iaload, [])], 8),
  ([(.iastore, []), (.iinc 5 1, []), (.goto (-43), [6])], 0),
  ([(.iinc 3 1, []), (.goto (-109), [1])], 0),
  ([(.return_, [])], 0)])
def md_State_tells : gD := (yX7_tells, cX7_tells, 5, (some .boolean), 5, (0, 0), [0, 7, 31, 32, 33, 76, 77], [
  ([(.iload_n 2, []), (.iload_n 3, []), (.if_icmp .ne 5, [1]), (.iconst 1, []), (.ireturn, [])], 0),
  ([(.iload 4, []), (.ifCond .eq 24, [4]), (.aload_n 1, []), (.getfield 48, [7, 10, 3, 224]), (.iload_n 2, []), (.iaload, []), (.aload_n 1, []), (.getfield 48, [7, 10, 3, 224]), (.iload_n 3, []), (.iaload, []), (.if_icmp .ne 7, [2]), (.iconst 1, []), (.goto 4, [3])], 0),
  ([(.iconst 0, [])], 3),
  ([(.ireturn, [])], 0),
  ([(.aload_n 0, []), (.getfield 9, [6, 0, 3, 356]), (.iload_n 2, []), (.iaload, []), (.ifCond .lt 37, [5]), (.aload_n 1, []), (.getfield 165, [7, 12, 3, 231]), (.iload_n 2, []), (.iaload, []), (.aload_n 1, []), (.getfield 165, [7, 12, 3, 231]), (.iload_n 3, []), (.iaload, []), (.if_icmp .ne 22, [5]), (.aload_n 0, []), (.aload_n 1, []), (.iload_n 2, []), (.invokevirtual 60, [0, 106, 2, 6, 0, 0, 997]), (.aload_n 0, []), (.aload_n 1, []), (.iload_n 3, []), (.invokevirtual 60, [0, 106, 2, 6, 0, 0, 997]), (.if_icmp .ne 7, [5]), (.iconst 1, []), (.goto 4, [6])], 0),
  ([(.iconst 0, [])], 6),
  ([(.ireturn, [])], 0)])
def md_State_draw : gD := (yX7_draw, cX7_draw, 3, none, 2, (0, 0), [0, 7, 59, 60, 70], [
  ([(.aload_n 0, []), (.iconst 0, []), (.putfield 27, [6, 5, 0, 369]), (.iconst 0, []), (.istore_n 2, [])], 1),
  ([(.iload_n 2, []), (.aload_n 1, []), (.getfield 43, [7, 8, 0, 214]), (.if_icmp .ge 58, [4]), (.aload_n 0, []), (.bipush 75, []), (.aload_n 0, []), (.getfield 31, [6, 6, 0, 370]), (.imul, []), (.bipush 74, []), (.iadd, []), (.ldc 168, [0, 65537, 1267]), (.irem, []), (.putfield 31, [6, 6, 0, 370]), (.aload_n 0, []), (.dup, []), (.getfield 27, [6, 5, 0, 369]), (.aload_n 0, []), (.getfield 31, [6, 6, 0, 370]), (.bipush 100, []), (.irem, []), (.aload_n 1, []), (.getfield 102, [7, 0, 3, 183]), (.iconst 4, []), (.iaload, []), (.if_icmp .ge 9, [2]), (.iconst 1, []), (.iload_n 2, []), (.ishl, []), (.goto 4, [3])], 0),
  ([(.iconst 0, [])], 3),
  ([(.ior, []), (.putfield 27, [6, 5, 0, 369]), (.iinc 2 1, []), (.goto (-60), [1])], 0),
  ([(.return_, [])], 0)])
def md_Towns_init : gD := (yX8_init, cX8_init, 1, none, 1, (15, 199), [0], [
  ([(.aload_n 0, []), (.invokespecial 3, [4, 180]), (.aload_n 0, []), (.iconst 5, []), (.newarray .int, [1]), (.putfield 9, [7, 0, 3, 181]), (.aload_n 0, []), (.iconst 0, []), (.putfield 15, [7, 1, 0, 186]), (.aload_n 0, []), (.bipush 6, []), (.newarray .int, [1]), (.putfield 19, [7, 2, 3, 190]), (.aload_n 0, []), (.bipush 6, []), (.newarray .int, [1]), (.putfield 22, [7, 3, 3, 195]), (.aload_n 0, []), (.bipush 6, []), (.newarray .int, [1]), (.putfield 25, [7, 4, 3, 198]), (.aload_n 0, []), (.bipush 24, []), (.newarray .int, [1]), (.putfield 28, [7, 5, 3, 201]), (.aload_n 0, []), (.iconst 0, []), (.putfield 31, [7, 6, 0, 204]), (.aload_n 0, []), (.bipush 12, []), (.newarray .int, [1]), (.putfield 34, [7, 7, 3, 208]), (.aload_n 0, []), (.iconst 0, []), (.putfield 37, [7, 8, 0, 212]), (.aload_n 0, []), (.bipush 10, []), (.newarray .int, [1]), (.putfield 40, [7, 9, 3, 219]), (.aload_n 0, []), (.bipush 10, []), (.newarray .int, [1]), (.putfield 43, [7, 10, 3, 223]), (.aload_n 0, []), (.bipush 10, []), (.newarray .int, [1]), (.putfield 46, [7, 11, 3, 226]), (.aload_n 0, []), (.bipush 10, []), (.newarray .int, [1]), (.putfield 49, [7, 12, 3, 229]), (.aload_n 0, []), (.bipush 10, []), (.newarray .int, [1]), (.putfield 52, [7, 13, 3, 232]), (.aload_n 0, []), (.bipush 10, []), (.newarray .int, [1]), (.putfield 55, [7, 14, 3, 237]), (.aload_n 0, []), (.bipush 10, []), (.newarray .int, [1]), (.putfield 58, [7, 15, 3, 240]), (.aload_n 0, []), (.bipush 60, []), (.newarray .int, [1]), (.putfield 61, [7, 16, 3, 243]), (.aload_n 0, []), (.bipush 10, []), (.newarray .int, [1]), (.putfield 64, [7, 17, 3, 245]), (.aload_n 0, []), (.iconst 0, []), (.putfield 67, [7, 18, 0, 248]), (.aload_n 0, []), (.iconst 0, []), (.putfield 70, [7, 19, 0, 251]), (.return_, [])], 0)])
def md_Towns_clear : gD := (yX8_clear, cX8_clear, 1, none, 1, (0, 0), [0], [
  ([(.aload_n 0, []), (.getfield 9, [7, 0, 3, 181]), (.iconst 0, []), (.invokestatic 73, [1, 342, 2, 0, 0, 641]), (.aload_n 0, []), (.iconst 0, []), (.putfield 15, [7, 1, 0, 186]), (.aload_n 0, []), (.getfield 28, [7, 5, 3, 201]), (.iconst (-1), []), (.invokestatic 73, [1, 342, 2, 0, 0, 641]), (.aload_n 0, []), (.iconst 0, []), (.putfield 31, [7, 6, 0, 204]), (.aload_n 0, []), (.iconst 0, []), (.putfield 37, [7, 8, 0, 212]), (.aload_n 0, []), (.getfield 52, [7, 13, 3, 232]), (.iconst 0, []), (.invokestatic 73, [1, 342, 2, 0, 0, 641]), (.aload_n 0, []), (.getfield 55, [7, 14, 3, 237]), (.iconst 0, []), (.invokestatic 73, [1, 342, 2, 0, 0, 641]), (.aload_n 0, []), (.getfield 58, [7, 15, 3, 240]), (.iconst 0, []), (.invokestatic 73, [1, 342, 2, 0, 0, 641]), (.aload_n 0, []), (.getfield 61, [7, 16, 3, 243]), (.iconst 0, []), (.invokestatic 73, [1, 342, 2, 0, 0, 641]), (.aload_n 0, []), (.getfield 64, [7, 17, 3, 245]), (.iconst 0, []), (.invokestatic 73, [1, 342, 2, 0, 0, 641]), (.aload_n 0, []), (.iconst 0, []), (.putfield 67, [7, 18, 0, 248]), (.aload_n 0, []), (.iconst 0, []), (.putfield 70, [7, 19, 0, 251]), (.return_, [])], 0)])
def md_Towns_bedsOn : gD := (yX8_bedsOn, cX8_bedsOn, 4, (some .int), 2, (0, 0), [0, 4, 32, 33, 41], [
  ([(.iconst 0, []), (.istore_n 2, []), (.iconst 0, []), (.istore_n 3, [])], 1),
  ([(.iload_n 3, []), (.aload_n 0, []), (.getfield 15, [7, 1, 0, 186]), (.if_icmp .ge 32, [4]), (.iload_n 2, []), (.aload_n 0, []), (.getfield 19, [7, 2, 3, 190]), (.iload_n 3, []), (.iaload, []), (.iload_n 1, []), (.if_icmp .ne 12, [2]), (.aload_n 0, []), (.getfield 22, [7, 3, 3, 195]), (.iload_n 3, []), (.iaload, []), (.goto 4, [3])], 0),
  ([(.iconst 0, [])], 3),
  ([(.iadd, []), (.istore_n 2, []), (.iinc 3 1, []), (.goto (-34), [1])], 0),
  ([(.iload_n 2, []), (.ireturn, [])], 0)])
def md_Towns_addHouse : gD := (yX8_addHouse, cX8_addHouse, 4, none, 3, (0, 0), [0, 20, 21, 59, 85], [
  ([(.aload_n 0, []), (.getfield 15, [7, 1, 0, 186]), (.bipush 6, []), (.if_icmp .ge 14, [1]), (.aload_n 0, []), (.getfield 31, [7, 6, 0, 204]), (.iload_n 2, []), (.iadd, []), (.bipush 12, []), (.if_icmp .le 4, [2])], 1),
  ([(.return_, [])], 0),
  ([(.aload_n 0, []), (.getfield 19, [7, 2, 3, 190]), (.aload_n 0, []), (.getfield 15, [7, 1, 0, 186]), (.iload_n 1, []), (.iastore, []), (.aload_n 0, []), (.getfield 22, [7, 3, 3, 195]), (.aload_n 0, []), (.getfield 15, [7, 1, 0, 186]), (.iload_n 2, []), (.iastore, []), (.aload_n 0, []), (.getfield 25, [7, 4, 3, 198]), (.aload_n 0, []), (.getfield 15, [7, 1, 0, 186]), (.aload_n 0, []), (.getfield 31, [7, 6, 0, 204]), (.iastore, []), (.aload_n 0, []), (.getfield 31, [7, 6, 0, 204]), (.istore_n 3, [])], 3),
  ([(.iload_n 3, []), (.aload_n 0, []), (.getfield 31, [7, 6, 0, 204]), (.iload_n 2, []), (.iadd, []), (.if_icmp .ge 19, [4]), (.aload_n 0, []), (.getfield 34, [7, 7, 3, 208]), (.iload_n 3, []), (.aload_n 0, []), (.getfield 15, [7, 1, 0, 186]), (.iastore, []), (.iinc 3 1, []), (.goto (-23), [3])], 0),
  ([(.aload_n 0, []), (.dup, []), (.getfield 31, [7, 6, 0, 204]), (.iload_n 2, []), (.iadd, []), (.putfield 31, [7, 6, 0, 204]), (.aload_n 0, []), (.dup, []), (.getfield 15, [7, 1, 0, 186]), (.iconst 1, []), (.iadd, []), (.putfield 15, [7, 1, 0, 186]), (.return_, [])], 0)])
def md_Towns_peopleOf : gD := (yX8_peopleOf, cX8_peopleOf, 4, (some .int), 2, (0, 0), [0, 4, 28, 29, 37], [
  ([(.iconst 0, []), (.istore_n 2, []), (.iconst 0, []), (.istore_n 3, [])], 1),
  ([(.iload_n 3, []), (.aload_n 0, []), (.getfield 37, [7, 8, 0, 212]), (.if_icmp .ge 28, [4]), (.iload_n 2, []), (.aload_n 0, []), (.iload_n 3, []), (.invokevirtual 79, [0, 130, 1, 7, 0, 0, 813]), (.iload_n 1, []), (.if_icmp .ne 9, [2]), (.iconst 1, []), (.iload_n 3, []), (.ishl, []), (.goto 4, [3])], 0),
  ([(.iconst 0, [])], 3),
  ([(.ior, []), (.istore_n 2, []), (.iinc 3 1, []), (.goto (-30), [1])], 0),
  ([(.iload_n 2, []), (.ireturn, [])], 0)])
def md_Towns_sideOf : gD := (yX8_sideOf, cX8_sideOf, 2, (some .int), 2, (0, 0), [0], [
  ([(.aload_n 0, []), (.getfield 19, [7, 2, 3, 190]), (.aload_n 0, []), (.getfield 43, [7, 10, 3, 223]), (.iload_n 1, []), (.iaload, []), (.iaload, []), (.ireturn, [])], 0)])
def md_Towns_addPerson : gD := (yX8_addPerson, cX8_addPerson, 5, none, 5, (0, 0), [0, 10], [
  ([(.aload_n 0, []), (.getfield 37, [7, 8, 0, 212]), (.bipush 10, []), (.if_icmp .lt 4, [1]), (.return_, [])], 0),
  ([(.aload_n 0, []), (.getfield 40, [7, 9, 3, 219]), (.aload_n 0, []), (.getfield 37, [7, 8, 0, 212]), (.iload_n 1, []), (.iastore, []), (.aload_n 0, []), (.getfield 43, [7, 10, 3, 223]), (.aload_n 0, []), (.getfield 37, [7, 8, 0, 212]), (.iload_n 2, []), (.iastore, []), (.aload_n 0, []), (.getfield 46, [7, 11, 3, 226]), (.aload_n 0, []), (.getfield 37, [7, 8, 0, 212]), (.iload_n 3, []), (.iastore, []), (.aload_n 0, []), (.getfield 49, [7, 12, 3, 229]), (.aload_n 0, []), (.getfield 37, [7, 8, 0, 212]), (.iload 4, []), (.iastore, []), (.aload_n 0, []), (.dup, []), (.getfield 37, [7, 8, 0, 212]), (.iconst 1, []), (.iadd, []), (.putfield 37, [7, 8, 0, 212]), (.return_, [])], 0)])
def md_Towns_addFoes : gD := (yX8_addFoes, cX8_addFoes, 3, none, 3, (0, 0), [0], [
  ([(.aload_n 0, []), (.getfield 52, [7, 13, 3, 232]), (.iload_n 1, []), (.dup2, []), (.iaload, []), (.iconst 1, []), (.iload_n 2, []), (.ishl, []), (.ior, []), (.iastore, []), (.aload_n 0, []), (.getfield 52, [7, 13, 3, 232]), (.iload_n 2, []), (.dup2, []), (.iaload, []), (.iconst 1, []), (.iload_n 1, []), (.ishl, []), (.ior, []), (.iastore, []), (.return_, [])], 0)])
def md_Towns_wantsOf : gD := (yX8_wantsOf, cX8_wantsOf, 3, (some .int), 3, (0, 0), [0], [
  ([(.aload_n 0, []), (.getfield 61, [7, 16, 3, 243]), (.iload_n 1, []), (.bipush 6, []), (.imul, []), (.iload_n 2, []), (.iadd, []), (.iaload, []), (.ireturn, [])], 0)])
def md_Towns_hasKeeps : gD := (yX8_hasKeeps, cX8_hasKeeps, 2, (some .boolean), 2, (0, 0), [0, 15, 16], [
  ([(.aload_n 0, []), (.getfield 28, [7, 5, 3, 201]), (.iload_n 1, []), (.iconst 4, []), (.imul, []), (.iaload, []), (.ifCond .lt 7, [1]), (.iconst 1, []), (.goto 4, [2])], 0),
  ([(.iconst 0, [])], 2),
  ([(.ireturn, [])], 0)])
def md_Towns_settle : gD := (yX8_settle, cX8_settle, 3, none, 1, (0, 0), [0, 2, 12, 40, 60, 72, 114, 120, 126], [
  ([(.iconst 0, []), (.istore_n 1, [])], 1),
  ([(.iload_n 1, []), (.aload_n 0, []), (.getfield 37, [7, 8, 0, 212]), (.if_icmp .ge 119, [8]), (.iconst 0, []), (.istore_n 2, [])], 2),
  ([(.iload_n 2, []), (.aload_n 0, []), (.getfield 37, [7, 8, 0, 212]), (.if_icmp .ge 103, [7]), (.aload_n 0, []), (.getfield 40, [7, 9, 3, 219]), (.iload_n 1, []), (.iaload, []), (.iconst 1, []), (.if_icmp .ne 13, [3]), (.aload_n 0, []), (.getfield 40, [7, 9, 3, 219]), (.iload_n 2, []), (.iaload, []), (.iconst 2, []), (.if_icmp .eq 23, [4])], 3),
  ([(.aload_n 0, []), (.getfield 40, [7, 9, 3, 219]), (.iload_n 1, []), (.iaload, []), (.iconst 2, []), (.if_icmp .ne 25, [5]), (.aload_n 0, []), (.getfield 40, [7, 9, 3, 219]), (.iload_n 2, []), (.iaload, []), (.iconst 1, []), (.if_icmp .ne 15, [5])], 4),
  ([(.aload_n 0, []), (.getfield 55, [7, 14, 3, 237]), (.iload_n 1, []), (.dup2, []), (.iaload, []), (.iconst 1, []), (.iload_n 2, []), (.ishl, []), (.ior, []), (.iastore, [])], 5),
  ([(.iload_n 1, []), (.iload_n 2, []), (.if_icmp .eq 40, [6]), (.aload_n 0, []), (.getfield 49, [7, 12, 3, 229]), (.iload_n 1, []), (.iaload, []), (.aload_n 0, []), (.getfield 49, [7, 12, 3, 229]), (.iload_n 2, []), (.iaload, []), (.if_icmp .ne 25, [6]), (.aload_n 0, []), (.getfield 40, [7, 9, 3, 219]), (.iload_n 2, []), (.iaload, []), (.iconst 3, []), (.if_icmp .eq 15, [6]), (.aload_n 0, []), (.getfield 58, [7, 15, 3, 240]), (.iload_n 1, []), (.dup2, []), (.iaload, []), (.iconst 1, []), (.iload_n 2, []), (.ishl, []), (.ior, []), (.iastore, [])], 6),
  ([(.iinc 2 1, []), (.goto (-105), [2])], 0),
  ([(.iinc 1 1, []), (.goto (-121), [1])], 0),
  ([(.return_, [])], 0)])
def md_Towns_bedSide : gD := (yX8_bedSide, cX8_bedSide, 2, (some .int), 2, (0, 0), [0], [
  ([(.aload_n 0, []), (.getfield 19, [7, 2, 3, 190]), (.aload_n 0, []), (.getfield 34, [7, 7, 3, 208]), (.iload_n 1, []), (.iaload, []), (.iaload, []), (.ireturn, [])], 0)])
def md_Towns_housesOn : gD := (yX8_housesOn, cX8_housesOn, 4, (some .int), 2, (0, 0), [0, 4, 27, 28, 36], [
  ([(.iconst 0, []), (.istore_n 2, []), (.iconst 0, []), (.istore_n 3, [])], 1),
  ([(.iload_n 3, []), (.aload_n 0, []), (.getfield 15, [7, 1, 0, 186]), (.if_icmp .ge 27, [4]), (.iload_n 2, []), (.aload_n 0, []), (.getfield 19, [7, 2, 3, 190]), (.iload_n 3, []), (.iaload, []), (.iload_n 1, []), (.if_icmp .ne 7, [2]), (.iconst 1, []), (.goto 4, [3])], 0),
  ([(.iconst 0, [])], 3),
  ([(.iadd, []), (.istore_n 2, []), (.iinc 3 1, []), (.goto (-29), [1])], 0),
  ([(.iload_n 2, []), (.ireturn, [])], 0)])
def md_Town_init : gD := (yX9_init, cX9_init, 1, none, 1, (253, 8444), [0], [
  ([(.aload_n 0, []), (.invokespecial 1, [4, 172]), (.aload_n 0, []), (.sipush 900, []), (.newarray .int, [1]), (.putfield 9, [8, 0, 3, 571]), (.aload_n 0, []), (.iconst 0, []), (.putfield 13, [8, 1, 0, 572]), (.aload_n 0, []), (.new 17, [7, 175, 176, 145]), (.dup, []), (.invokespecial 19, [3, 125, 0, 15, 199, 0]), (.putfield 20, [8, 2, 3, 573]), (.aload_n 0, []), (.new 24, [4, 296, 297, 146]), (.dup, []), (.invokespecial 26, [3, 58, 0, 19, 1135, 1]), (.putfield 27, [8, 3, 3, 574]), (.aload_n 0, []), (.new 31, [6, 350, 351, 147]), (.dup, []), (.invokespecial 33, [3, 98, 0, 5, 250, 3]), (.putfield 34, [8, 4, 3, 575]), (.aload_n 0, []), (.new 38, [3, 391, 392, 148]), (.dup, []), (.invokespecial 40, [2, 52, 0, 92, 3885, 393]), (.putfield 41, [8, 5, 3, 576]), (.aload_n 0, []), (.iconst 2, []), (.anewarray 45, [4, 418]), (.dup, []), (.iconst 0, []), (.new 45, [1, 418, 420, 149]), (.dup, []), (.invokespecial 47, [2, 21, 0, 16, 196, 421]), (.aastore, []), (.dup, []), (.iconst 1, []), (.new 45, [1, 418, 420, 149]), (.dup, []), (.invokespecial 47, [2, 21, 0, 16, 196, 421]), (.aastore, []), (.putfield 48, [8, 6, 3, 577]), (.aload_n 0, []), (.iconst 2, []), (.anewarray 45, [4, 418]), (.dup, []), (.iconst 0, []), (.new 45, [1, 418, 420, 149]), (.dup, []), (.invokespecial 47, [2, 21, 0, 16, 196, 421]), (.aastore, []), (.dup, []), (.iconst 1, []), (.new 45, [1, 418, 420, 149]), (.dup, []), (.invokespecial 47, [2, 21, 0, 16, 196, 421]), (.aastore, []), (.putfield 52, [8, 7, 3, 578]), (.aload_n 0, []), (.new 45, [1, 418, 420, 149]), (.dup, []), (.invokespecial 47, [2, 21, 0, 16, 196, 421]), (.putfield 55, [8, 8, 3, 579]), (.aload_n 0, []), (.new 59, [2, 503, 504, 151]), (.dup, []), (.invokespecial 61, [3, 45, 0, 25, 923, 6]), (.putfield 62, [8, 9, 3, 580]), (.aload_n 0, []), (.new 66, [0, 534, 535, 152]), (.dup, []), (.invokespecial 68, [3, 9, 0, 3, 16, 8]), (.putfield 69, [8, 10, 3, 581]), (.aload_n 0, []), (.iconst 0, []), (.putfield 73, [8, 11, 0, 582]), (.return_, [])], 0)])
def md_Town_feed : gD := (yX9_feed, cX9_feed, 6, (some .int), 6, (0, 0), [0, 15], [
  ([(.aload_n 0, []), (.getfield 13, [8, 1, 0, 572]), (.bipush 20, []), (.iadd, []), (.sipush 900, []), (.if_icmp .le 5, [1]), (.iconst (-1), []), (.ireturn, [])], 0),
  ([(.aload_n 0, []), (.iload_n 1, []), (.invokevirtual 76, [0, 140, 1, 8, 0, 0, 612]), (.aload_n 0, []), (.iload_n 2, []), (.invokevirtual 76, [0, 140, 1, 8, 0, 0, 612]), (.aload_n 0, []), (.iload_n 3, []), (.invokevirtual 76, [0, 140, 1, 8, 0, 0, 612]), (.aload_n 0, []), (.iload 4, []), (.invokevirtual 76, [0, 140, 1, 8, 0, 0, 612]), (.aload_n 0, []), (.iload 5, []), (.invokevirtual 76, [0, 140, 1, 8, 0, 0, 612]), (.aload_n 0, []), (.getfield 13, [8, 1, 0, 572]), (.ireturn, [])], 0)])
def md_Town_append : gD := (yX9_append, cX9_append, 3, none, 2, (0, 0), [0, 3, 49], [
  ([(.bipush 24, []), (.istore_n 2, [])], 1),
  ([(.iload_n 2, []), (.ifCond .lt 45, [2]), (.aload_n 0, []), (.getfield 13, [8, 1, 0, 572]), (.sipush 900, []), (.if_icmp .ge 35, [2]), (.aload_n 0, []), (.getfield 9, [8, 0, 3, 571]), (.aload_n 0, []), (.getfield 13, [8, 1, 0, 572]), (.iload_n 1, []), (.iload_n 2, []), (.ishr, []), (.sipush 255, []), (.iand, []), (.iastore, []), (.aload_n 0, []), (.dup, []), (.getfield 13, [8, 1, 0, 572]), (.iconst 1, []), (.iadd, []), (.putfield 13, [8, 1, 0, 572]), (.iinc 2 (-8), []), (.goto (-43), [1])], 0),
  ([(.return_, [])], 0)])
def md_Town_towns : gD := (yX9_towns, cX9_towns, 3, (some .int), 2, (0, 0), [0, 12, 18, 32, 76, 97], [
  ([(.iload_n 1, []), (.ifCond .lt 11, [1]), (.iload_n 1, []), (.aload_n 0, []), (.getfield 13, [8, 1, 0, 572]), (.if_icmp .le 9, [2])], 1),
  ([(.aload_n 0, []), (.iconst 2, []), (.invokevirtual 80, [0, 142, 1, 8, 0, 0, 620]), (.ireturn, [])], 0),
  ([(.aload_n 0, []), (.getfield 27, [8, 3, 3, 574]), (.aload_n 0, []), (.getfield 9, [8, 0, 3, 571]), (.iload_n 1, []), (.invokevirtual 84, [0, 59, 2, 4, 0, 0, 624]), (.iconst 0, []), (.istore_n 2, [])], 3),
  ([(.iload_n 2, []), (.sipush 900, []), (.if_icmp .gt 40, [4]), (.aload_n 0, []), (.getfield 27, [8, 3, 3, 574]), (.invokevirtual 88, [0, 60, 0, 4, 0, 0, 644]), (.ifCond .eq 30, [4]), (.aload_n 0, []), (.getfield 27, [8, 3, 3, 574]), (.aload_n 0, []), (.getfield 27, [8, 3, 3, 574]), (.invokevirtual 92, [0, 61, 0, 4, 0, 0, 648]), (.invokevirtual 96, [0, 69, 1, 4, 0, 0, 737]), (.aload_n 0, []), (.getfield 27, [8, 3, 3, 574]), (.invokevirtual 99, [0, 90, 0, 4, 0, 0, 874]), (.iinc 2 1, []), (.goto (-41), [3])], 0),
  ([(.aload_n 0, []), (.iconst 0, []), (.putfield 13, [8, 1, 0, 572]), (.aload_n 0, []), (.getfield 27, [8, 3, 3, 574]), (.invokevirtual 102, [0, 91, 0, 4, 0, 0, 878]), (.ifCond .ne 9, [5]), (.aload_n 0, []), (.iconst 4, []), (.invokevirtual 80, [0, 142, 1, 8, 0, 0, 620]), (.ireturn, [])], 0),
  ([(.aload_n 0, []), (.aload_n 0, []), (.getfield 27, [8, 3, 3, 574]), (.aload_n 0, []), (.getfield 20, [8, 2, 3, 573]), (.invokevirtual 105, [0, 92, 1, 4, 0, 0, 886]), (.putfield 20, [8, 2, 3, 573]), (.aload_n 0, []), (.getfield 34, [8, 4, 3, 575]), (.aload_n 0, []), (.getfield 20, [8, 2, 3, 573]), (.invokevirtual 109, [0, 99, 1, 6, 0, 0, 890]), (.aload_n 0, []), (.getfield 41, [8, 5, 3, 576]), (.invokevirtual 112, [0, 53, 0, 3, 0, 0, 895]), (.aload_n 0, []), (.getfield 52, [8, 7, 3, 578]), (.iconst 0, []), (.aaload, []), (.invokevirtual 115, [0, 22, 0, 1, 0, 0, 899]), (.aload_n 0, []), (.getfield 52, [8, 7, 3, 578]), (.iconst 1, []), (.aaload, []), (.invokevirtual 115, [0, 22, 0, 1, 0, 0, 899]), (.aload_n 0, []), (.invokevirtual 118, [0, 143, 0, 8, 0, 0, 903]), (.aload_n 0, []), (.aload_n 0, []), (.getfield 20, [8, 2, 3, 573]), (.getfield 121, [7, 8, 0, 215]), (.invokevirtual 124, [0, 144, 1, 8, 0, 0, 911]), (.ireturn, [])], 0)])
def md_Town_refuse : gD := (yX9_refuse, cX9_refuse, 2, (some .int), 2, (0, 0), [0], [
  ([(.aload_n 0, []), (.iload_n 1, []), (.putfield 73, [8, 11, 0, 582]), (.iconst (-1), []), (.ireturn, [])], 0)])
def md_Town_changed : gD := (yX9_changed, cX9_changed, 1, none, 1, (0, 0), [0], [
  ([(.aload_n 0, []), (.getfield 48, [8, 6, 3, 577]), (.iconst 0, []), (.aaload, []), (.invokevirtual 115, [0, 22, 0, 1, 0, 0, 899]), (.aload_n 0, []), (.getfield 48, [8, 6, 3, 577]), (.iconst 1, []), (.aaload, []), (.invokevirtual 115, [0, 22, 0, 1, 0, 0, 899]), (.aload_n 0, []), (.getfield 62, [8, 9, 3, 580]), (.invokevirtual 399, [0, 46, 0, 2, 0, 0, 907]), (.return_, [])], 0)])
def md_Town_answer : gD := (yX9_answer, cX9_answer, 2, (some .int), 2, (0, 0), [0], [
  ([(.aload_n 0, []), (.iconst 0, []), (.putfield 73, [8, 11, 0, 582]), (.iload_n 1, []), (.ireturn, [])], 0)])
def md_Town_fault : gD := (yX9_fault, cX9_fault, 1, (some .int), 1, (0, 0), [0], [
  ([(.aload_n 0, []), (.getfield 27, [8, 3, 3, 574]), (.getfield 127, [4, 0, 0, 305]), (.ireturn, [])], 0)])
def md_Town_where : gD := (yX9_where, cX9_where, 1, (some .int), 1, (0, 0), [0, 18, 19], [
  ([(.aload_n 0, []), (.getfield 73, [8, 11, 0, 582]), (.iconst 4, []), (.if_icmp .ne 13, [1]), (.aload_n 0, []), (.getfield 27, [8, 3, 3, 574]), (.getfield 130, [4, 1, 0, 307]), (.goto 4, [2])], 0),
  ([(.iconst (-1), [])], 2),
  ([(.ireturn, [])], 0)])
def md_Town_house : gD := (yX9_house, cX9_house, 3, (some .int), 3, (0, 0), [0, 14, 44, 58, 72, 86, 102, 103, 107], [
  ([(.aload_n 0, []), (.iload_n 1, []), (.invokevirtual 133, [0, 148, 1, 8, 0, 0, 928]), (.ifCond .ne 9, [1]), (.aload_n 0, []), (.iconst 1, []), (.invokevirtual 80, [0, 142, 1, 8, 0, 0, 620]), (.ireturn, [])], 0),
  ([(.iload_n 2, []), (.tableswitch 92 0 3 #[29, 43, 57, 71], [8, 2, 3, 4, 5])], 0),
  ([(.aload_n 0, []), (.aload_n 0, []), (.getfield 20, [8, 2, 3, 573]), (.getfield 137, [7, 2, 3, 191]), (.iload_n 1, []), (.iaload, []), (.invokevirtual 124, [0, 144, 1, 8, 0, 0, 911]), (.ireturn, [])], 0),
  ([(.aload_n 0, []), (.aload_n 0, []), (.getfield 20, [8, 2, 3, 573]), (.getfield 140, [7, 3, 3, 196]), (.iload_n 1, []), (.iaload, []), (.invokevirtual 124, [0, 144, 1, 8, 0, 0, 911]), (.ireturn, [])], 0),
  ([(.aload_n 0, []), (.aload_n 0, []), (.getfield 20, [8, 2, 3, 573]), (.getfield 143, [7, 4, 3, 199]), (.iload_n 1, []), (.iaload, []), (.invokevirtual 124, [0, 144, 1, 8, 0, 0, 911]), (.ireturn, [])], 0),
  ([(.aload_n 0, []), (.aload_n 0, []), (.getfield 20, [8, 2, 3, 573]), (.iload_n 1, []), (.invokevirtual 146, [0, 134, 1, 7, 0, 0, 932]), (.ifCond .eq 7, [6]), (.iconst 1, []), (.goto 4, [7])], 0),
  ([(.iconst 0, [])], 7),
  ([(.invokevirtual 124, [0, 144, 1, 8, 0, 0, 911]), (.ireturn, [])], 0),
  ([(.aload_n 0, []), (.iconst 1, []), (.invokevirtual 80, [0, 142, 1, 8, 0, 0, 620]), (.ireturn, [])], 0)])
def md_Town_isHouse : gD := (yX9_isHouse, cX9_isHouse, 2, (some .boolean), 2, (0, 0), [0, 19, 20], [
  ([(.iload_n 1, []), (.ifCond .lt 18, [1]), (.iload_n 1, []), (.aload_n 0, []), (.getfield 20, [8, 2, 3, 573]), (.getfield 387, [7, 1, 0, 189]), (.if_icmp .ge 7, [1]), (.iconst 1, []), (.goto 4, [2])], 0),
  ([(.iconst 0, [])], 2),
  ([(.ireturn, [])], 0)])
def md_Town_person : gD := (yX9_person, cX9_person, 3, (some .int), 3, (0, 0), [0, 14, 56, 70, 84, 97, 111, 125, 139, 155, 156, 160], [
  ([(.aload_n 0, []), (.iload_n 1, []), (.invokevirtual 149, [0, 150, 1, 8, 0, 0, 937]), (.ifCond .ne 9, [1]), (.aload_n 0, []), (.iconst 1, []), (.invokevirtual 80, [0, 142, 1, 8, 0, 0, 620]), (.ireturn, [])], 0),
  ([(.iload_n 2, []), (.tableswitch 145 0 6 #[41, 55, 69, 82, 96, 110, 124], [11, 2, 3, 4, 5, 6, 7, 8])], 0),
  ([(.aload_n 0, []), (.aload_n 0, []), (.getfield 20, [8, 2, 3, 573]), (.getfield 152, [7, 9, 3, 220]), (.iload_n 1, []), (.iaload, []), (.invokevirtual 124, [0, 144, 1, 8, 0, 0, 911]), (.ireturn, [])], 0),
  ([(.aload_n 0, []), (.aload_n 0, []), (.getfield 20, [8, 2, 3, 573]), (.getfield 155, [7, 10, 3, 225]), (.iload_n 1, []), (.iaload, []), (.invokevirtual 124, [0, 144, 1, 8, 0, 0, 911]), (.ireturn, [])], 0),
  ([(.aload_n 0, []), (.aload_n 0, []), (.getfield 20, [8, 2, 3, 573]), (.iload_n 1, []), (.invokevirtual 158, [0, 130, 1, 7, 0, 0, 941]), (.invokevirtual 124, [0, 144, 1, 8, 0, 0, 911]), (.ireturn, [])], 0),
  ([(.aload_n 0, []), (.aload_n 0, []), (.getfield 20, [8, 2, 3, 573]), (.getfield 161, [7, 11, 3, 228]), (.iload_n 1, []), (.iaload, []), (.invokevirtual 124, [0, 144, 1, 8, 0, 0, 911]), (.ireturn, [])], 0),
  ([(.aload_n 0, []), (.aload_n 0, []), (.getfield 20, [8, 2, 3, 573]), (.getfield 164, [7, 12, 3, 230]), (.iload_n 1, []), (.iaload, []), (.invokevirtual 124, [0, 144, 1, 8, 0, 0, 911]), (.ireturn, [])], 0),
  ([(.aload_n 0, []), (.aload_n 0, []), (.getfield 20, [8, 2, 3, 573]), (.getfield 167, [7, 13, 3, 233]), (.iload_n 1, []), (.iaload, []), (.invokevirtual 124, [0, 144, 1, 8, 0, 0, 911]), (.ireturn, [])], 0),
  ([(.aload_n 0, []), (.aload_n 0, []), (.getfield 34, [8, 4, 3, 575]), (.iload_n 1, []), (.invokevirtual 170, [0, 100, 1, 6, 0, 0, 942]), (.ifCond .eq 7, [9]), (.iconst 1, []), (.goto 4, [10])], 0),
  ([(.iconst 0, [])], 10),
  ([(.invokevirtual 124, [0, 144, 1, 8, 0, 0, 911]), (.ireturn, [])], 0),
  ([(.aload_n 0, []), (.iconst 1, []), (.invokevirtual 80, [0, 142, 1, 8, 0, 0, 620]), (.ireturn, [])], 0)])
def md_Town_isPerson : gD := (yX9_isPerson, cX9_isPerson, 2, (some .boolean), 2, (0, 0), [0, 19, 20], [
  ([(.iload_n 1, []), (.ifCond .lt 18, [1]), (.iload_n 1, []), (.aload_n 0, []), (.getfield 20, [8, 2, 3, 573]), (.getfield 121, [7, 8, 0, 215]), (.if_icmp .ge 7, [1]), (.iconst 1, []), (.goto 4, [2])], 0),
  ([(.iconst 0, [])], 2),
  ([(.ireturn, [])], 0)])
def md_Town_houseOf : gD := (yX9_houseOf, cX9_houseOf, 2, (some .int), 2, (0, 0), [0, 24, 29], [
  ([(.aload_n 0, []), (.iload_n 1, []), (.invokevirtual 173, [0, 152, 1, 8, 0, 0, 950]), (.ifCond .eq 19, [1]), (.aload_n 0, []), (.aload_n 0, []), (.getfield 20, [8, 2, 3, 573]), (.getfield 176, [7, 7, 3, 210]), (.iload_n 1, []), (.iaload, []), (.invokevirtual 124, [0, 144, 1, 8, 0, 0, 911]), (.goto 8, [2])], 0),
  ([(.aload_n 0, []), (.iconst 1, []), (.invokevirtual 80, [0, 142, 1, 8, 0, 0, 620])], 2),
  ([(.ireturn, [])], 0)])
def md_Town_isBed : gD := (yX9_isBed, cX9_isBed, 2, (some .boolean), 2, (0, 0), [0, 19, 20], [
  ([(.iload_n 1, []), (.ifCond .lt 18, [1]), (.iload_n 1, []), (.aload_n 0, []), (.getfield 20, [8, 2, 3, 573]), (.getfield 390, [7, 6, 0, 207]), (.if_icmp .ge 7, [1]), (.iconst 1, []), (.goto 4, [2])], 0),
  ([(.iconst 0, [])], 2),
  ([(.ireturn, [])], 0)])
def md_Town_wants : gD := (yX9_wants, cX9_wants, 3, (some .int), 3, (0, 0), [0, 32, 37], [
  ([(.aload_n 0, []), (.iload_n 1, []), (.invokevirtual 149, [0, 150, 1, 8, 0, 0, 937]), (.ifCond .eq 27, [1]), (.aload_n 0, []), (.iload_n 2, []), (.invokevirtual 133, [0, 148, 1, 8, 0, 0, 928]), (.ifCond .eq 19, [1]), (.aload_n 0, []), (.aload_n 0, []), (.getfield 20, [8, 2, 3, 573]), (.iload_n 1, []), (.iload_n 2, []), (.invokevirtual 179, [0, 133, 2, 7, 0, 0, 958]), (.invokevirtual 124, [0, 144, 1, 8, 0, 0, 911]), (.goto 8, [2])], 0),
  ([(.aload_n 0, []), (.iconst 1, []), (.invokevirtual 80, [0, 142, 1, 8, 0, 0, 620])], 2),
  ([(.ireturn, [])], 0)])
def md_Town_bed : gD := (yX9_bed, cX9_bed, 2, (some .int), 2, (0, 0), [0, 24, 29], [
  ([(.aload_n 0, []), (.iload_n 1, []), (.invokevirtual 149, [0, 150, 1, 8, 0, 0, 937]), (.ifCond .eq 19, [1]), (.aload_n 0, []), (.aload_n 0, []), (.getfield 34, [8, 4, 3, 575]), (.getfield 183, [6, 0, 3, 360]), (.iload_n 1, []), (.iaload, []), (.invokevirtual 124, [0, 144, 1, 8, 0, 0, 911]), (.goto 8, [2])], 0),
  ([(.aload_n 0, []), (.iconst 1, []), (.invokevirtual 80, [0, 142, 1, 8, 0, 0, 620])], 2),
  ([(.ireturn, [])], 0)])
def md_Town_who : gD := (yX9_who, cX9_who, 2, (some .int), 2, (0, 0), [0, 27, 32], [
  ([(.aload_n 0, []), (.iload_n 1, []), (.invokevirtual 173, [0, 152, 1, 8, 0, 0, 950]), (.ifCond .eq 22, [1]), (.aload_n 0, []), (.aload_n 0, []), (.getfield 34, [8, 4, 3, 575]), (.aload_n 0, []), (.getfield 20, [8, 2, 3, 573]), (.iload_n 1, []), (.invokevirtual 186, [0, 101, 2, 6, 0, 0, 967]), (.invokevirtual 124, [0, 144, 1, 8, 0, 0, 911]), (.goto 8, [2])], 0),
  ([(.aload_n 0, []), (.iconst 1, []), (.invokevirtual 80, [0, 142, 1, 8, 0, 0, 620])], 2),
  ([(.ireturn, [])], 0)])
def md_Town_wrong : gD := (yX9_wrong, cX9_wrong, 2, (some .int), 2, (0, 0), [0, 36, 41], [
  ([(.aload_n 0, []), (.iload_n 1, []), (.invokevirtual 149, [0, 150, 1, 8, 0, 0, 937]), (.ifCond .eq 31, [1]), (.aload_n 0, []), (.aload_n 0, []), (.getfield 34, [8, 4, 3, 575]), (.aload_n 0, []), (.getfield 20, [8, 2, 3, 573]), (.iload_n 1, []), (.aload_n 0, []), (.getfield 34, [8, 4, 3, 575]), (.getfield 183, [6, 0, 3, 360]), (.iload_n 1, []), (.iaload, []), (.invokevirtual 190, [0, 102, 3, 6, 0, 0, 975]), (.invokevirtual 124, [0, 144, 1, 8, 0, 0, 911]), (.goto 8, [2])], 0),
  ([(.aload_n 0, []), (.iconst 1, []), (.invokevirtual 80, [0, 142, 1, 8, 0, 0, 620])], 2),
  ([(.ireturn, [])], 0)])
def md_Town_firstWrong : gD := (yX9_firstWrong, cX9_firstWrong, 1, (some .int), 1, (0, 0), [0, 25, 30], [
  ([(.aload_n 0, []), (.invokevirtual 194, [0, 158, 0, 8, 0, 0, 1006]), (.ifCond .eq 21, [1]), (.aload_n 0, []), (.aload_n 0, []), (.getfield 34, [8, 4, 3, 575]), (.aload_n 0, []), (.getfield 20, [8, 2, 3, 573]), (.invokevirtual 197, [0, 107, 1, 6, 0, 0, 1010]), (.invokevirtual 124, [0, 144, 1, 8, 0, 0, 911]), (.goto 8, [2])], 0),
  ([(.aload_n 0, []), (.iconst 1, []), (.invokevirtual 80, [0, 142, 1, 8, 0, 0, 620])], 2),
  ([(.ireturn, [])], 0)])
def md_Town_isTold : gD := (yX9_isTold, cX9_isTold, 1, (some .boolean), 1, (0, 0), [0, 14, 15], [
  ([(.aload_n 0, []), (.getfield 20, [8, 2, 3, 573]), (.getfield 121, [7, 8, 0, 215]), (.ifCond .le 7, [1]), (.iconst 1, []), (.goto 4, [2])], 0),
  ([(.iconst 0, [])], 2),
  ([(.ireturn, [])], 0)])
def md_Town_wrongIn : gD := (yX9_wrongIn, cX9_wrongIn, 3, (some .int), 3, (0, 0), [0, 36, 41], [
  ([(.aload_n 0, []), (.iload_n 1, []), (.invokevirtual 149, [0, 150, 1, 8, 0, 0, 937]), (.ifCond .eq 31, [1]), (.aload_n 0, []), (.iload_n 2, []), (.invokevirtual 173, [0, 152, 1, 8, 0, 0, 950]), (.ifCond .eq 23, [1]), (.aload_n 0, []), (.aload_n 0, []), (.getfield 34, [8, 4, 3, 575]), (.aload_n 0, []), (.getfield 20, [8, 2, 3, 573]), (.iload_n 1, []), (.iload_n 2, []), (.invokevirtual 190, [0, 102, 3, 6, 0, 0, 975]), (.invokevirtual 124, [0, 144, 1, 8, 0, 0, 911]), (.goto 8, [2])], 0),
  ([(.aload_n 0, []), (.iconst 1, []), (.invokevirtual 80, [0, 142, 1, 8, 0, 0, 620])], 2),
  ([(.ireturn, [])], 0)])
def md_Town_worth : gD := (yX9_worth, cX9_worth, 2, (some .int), 2, (0, 0), [0, 27, 32], [
  ([(.aload_n 0, []), (.iload_n 1, []), (.invokevirtual 201, [0, 161, 1, 8, 0, 0, 1023]), (.ifCond .eq 22, [1]), (.aload_n 0, []), (.aload_n 0, []), (.getfield 34, [8, 4, 3, 575]), (.aload_n 0, []), (.getfield 20, [8, 2, 3, 573]), (.iload_n 1, []), (.invokevirtual 204, [0, 108, 2, 6, 0, 0, 1027]), (.invokevirtual 124, [0, 144, 1, 8, 0, 0, 911]), (.goto 8, [2])], 0),
  ([(.aload_n 0, []), (.iconst 1, []), (.invokevirtual 80, [0, 142, 1, 8, 0, 0, 620])], 2),
  ([(.ireturn, [])], 0)])
def md_Town_isSide : gD := (yX9_isSide, cX9_isSide, 2, (some .boolean), 2, (0, 0), [0, 16, 20, 21], [
  ([(.aload_n 0, []), (.invokevirtual 194, [0, 158, 0, 8, 0, 0, 1006]), (.ifCond .eq 16, [2]), (.iload_n 1, []), (.ifCond .eq 8, [1]), (.iload_n 1, []), (.iconst 1, []), (.if_icmp .ne 7, [2])], 1),
  ([(.iconst 1, []), (.goto 4, [3])], 0),
  ([(.iconst 0, [])], 3),
  ([(.ireturn, [])], 0)])
def md_Town_rows : gD := (yX9_rows, cX9_rows, 2, (some .int), 2, (0, 0), [0, 14], [
  ([(.aload_n 0, []), (.iload_n 1, []), (.invokevirtual 201, [0, 161, 1, 8, 0, 0, 1023]), (.ifCond .ne 9, [1]), (.aload_n 0, []), (.iconst 1, []), (.invokevirtual 80, [0, 142, 1, 8, 0, 0, 620]), (.ireturn, [])], 0),
  ([(.aload_n 0, []), (.getfield 48, [8, 6, 3, 577]), (.iload_n 1, []), (.aaload, []), (.aload_n 0, []), (.getfield 20, [8, 2, 3, 573]), (.aload_n 0, []), (.getfield 34, [8, 4, 3, 575]), (.iload_n 1, []), (.invokevirtual 207, [0, 23, 3, 1, 0, 0, 1036]), (.aload_n 0, []), (.aload_n 0, []), (.getfield 48, [8, 6, 3, 577]), (.iload_n 1, []), (.aaload, []), (.getfield 211, [1, 13, 0, 458]), (.invokevirtual 124, [0, 144, 1, 8, 0, 0, 911]), (.ireturn, [])], 0)])
def md_Town_best : gD := (yX9_best, cX9_best, 2, (some .int), 2, (0, 0), [0, 14], [
  ([(.aload_n 0, []), (.iload_n 1, []), (.invokevirtual 149, [0, 150, 1, 8, 0, 0, 937]), (.ifCond .ne 9, [1]), (.aload_n 0, []), (.iconst 1, []), (.invokevirtual 80, [0, 142, 1, 8, 0, 0, 620]), (.ireturn, [])], 0),
  ([(.aload_n 0, []), (.aload_n 0, []), (.aload_n 0, []), (.getfield 20, [8, 2, 3, 573]), (.iload_n 1, []), (.invokevirtual 158, [0, 130, 1, 7, 0, 0, 941]), (.invokevirtual 214, [0, 164, 1, 8, 0, 0, 1095]), (.getfield 218, [1, 17, 3, 465]), (.iload_n 1, []), (.iaload, []), (.invokevirtual 124, [0, 144, 1, 8, 0, 0, 911]), (.ireturn, [])], 0)])
def md_Town_bestOf : gD := (yX9_bestOf, cX9_bestOf, 3, (some (.object "OtherTown$Finder")), 2, (0, 0), [0, 13, 14], [
  ([(.aload_n 0, []), (.getfield 48, [8, 6, 3, 577]), (.iload_n 1, []), (.iconst 1, []), (.if_icmp .ne 7, [1]), (.iconst 1, []), (.goto 4, [2])], 0),
  ([(.iconst 0, [])], 2),
  ([(.aaload, []), (.astore_n 2, []), (.aload_n 2, []), (.aload_n 0, []), (.getfield 20, [8, 2, 3, 573]), (.aload_n 0, []), (.getfield 34, [8, 4, 3, 575]), (.iload_n 1, []), (.invokevirtual 400, [0, 32, 3, 1, 0, 0, 1099]), (.aload_n 2, []), (.areturn, [])], 0)])
def md_Town_bestChurch : gD := (yX9_bestChurch, cX9_bestChurch, 2, (some .int), 2, (0, 0), [0, 23, 28], [
  ([(.aload_n 0, []), (.iload_n 1, []), (.invokevirtual 201, [0, 161, 1, 8, 0, 0, 1023]), (.ifCond .eq 18, [1]), (.aload_n 0, []), (.aload_n 0, []), (.iload_n 1, []), (.invokevirtual 214, [0, 164, 1, 8, 0, 0, 1095]), (.getfield 221, [1, 15, 0, 461]), (.invokevirtual 124, [0, 144, 1, 8, 0, 0, 911]), (.goto 8, [2])], 0),
  ([(.aload_n 0, []), (.iconst 1, []), (.invokevirtual 80, [0, 142, 1, 8, 0, 0, 620])], 2),
  ([(.ireturn, [])], 0)])
def md_Town_bestWorth : gD := (yX9_bestWorth, cX9_bestWorth, 2, (some .int), 2, (0, 0), [0, 23, 28], [
  ([(.aload_n 0, []), (.iload_n 1, []), (.invokevirtual 201, [0, 161, 1, 8, 0, 0, 1023]), (.ifCond .eq 18, [1]), (.aload_n 0, []), (.aload_n 0, []), (.iload_n 1, []), (.invokevirtual 214, [0, 164, 1, 8, 0, 0, 1095]), (.getfield 224, [1, 16, 0, 463]), (.invokevirtual 124, [0, 144, 1, 8, 0, 0, 911]), (.goto 8, [2])], 0),
  ([(.aload_n 0, []), (.iconst 1, []), (.invokevirtual 80, [0, 142, 1, 8, 0, 0, 620])], 2),
  ([(.ireturn, [])], 0)])
def md_Town_turnsOf : gD := (yX9_turnsOf, cX9_turnsOf, 2, (some .int), 2, (0, 0), [0, 24, 29], [
  ([(.aload_n 0, []), (.iload_n 1, []), (.invokevirtual 149, [0, 150, 1, 8, 0, 0, 937]), (.ifCond .eq 19, [1]), (.aload_n 0, []), (.aload_n 0, []), (.getfield 34, [8, 4, 3, 575]), (.getfield 227, [6, 1, 3, 363]), (.iload_n 1, []), (.iaload, []), (.invokevirtual 124, [0, 144, 1, 8, 0, 0, 911]), (.goto 8, [2])], 0),
  ([(.aload_n 0, []), (.iconst 1, []), (.invokevirtual 80, [0, 142, 1, 8, 0, 0, 620])], 2),
  ([(.ireturn, [])], 0)])
def md_Town_ago : gD := (yX9_ago, cX9_ago, 3, (some .int), 3, (0, 0), [0, 32, 37], [
  ([(.aload_n 0, []), (.iload_n 1, []), (.invokevirtual 149, [0, 150, 1, 8, 0, 0, 937]), (.ifCond .eq 27, [1]), (.aload_n 0, []), (.iload_n 2, []), (.invokevirtual 173, [0, 152, 1, 8, 0, 0, 950]), (.ifCond .eq 19, [1]), (.aload_n 0, []), (.aload_n 0, []), (.getfield 34, [8, 4, 3, 575]), (.iload_n 1, []), (.iload_n 2, []), (.invokevirtual 230, [0, 104, 2, 6, 0, 0, 1136]), (.invokevirtual 124, [0, 144, 1, 8, 0, 0, 911]), (.goto 8, [2])], 0),
  ([(.aload_n 0, []), (.iconst 1, []), (.invokevirtual 80, [0, 142, 1, 8, 0, 0, 620])], 2),
  ([(.ireturn, [])], 0)])
def md_Town_slept : gD := (yX9_slept, cX9_slept, 2, (some .int), 2, (0, 0), [0, 27, 32], [
  ([(.aload_n 0, []), (.iload_n 1, []), (.invokevirtual 149, [0, 150, 1, 8, 0, 0, 937]), (.ifCond .eq 22, [1]), (.aload_n 0, []), (.aload_n 0, []), (.getfield 34, [8, 4, 3, 575]), (.aload_n 0, []), (.getfield 20, [8, 2, 3, 573]), (.iload_n 1, []), (.invokevirtual 233, [0, 109, 2, 6, 0, 0, 1141]), (.invokevirtual 124, [0, 144, 1, 8, 0, 0, 911]), (.goto 8, [2])], 0),
  ([(.aload_n 0, []), (.iconst 1, []), (.invokevirtual 80, [0, 142, 1, 8, 0, 0, 620])], 2),
  ([(.ireturn, [])], 0)])
def md_Town_knows : gD := (yX9_knows, cX9_knows, 2, (some .int), 2, (0, 0), [0, 24, 29], [
  ([(.aload_n 0, []), (.iload_n 1, []), (.invokevirtual 149, [0, 150, 1, 8, 0, 0, 937]), (.ifCond .eq 19, [1]), (.aload_n 0, []), (.aload_n 0, []), (.getfield 34, [8, 4, 3, 575]), (.getfield 236, [6, 2, 3, 366]), (.iload_n 1, []), (.iaload, []), (.invokevirtual 124, [0, 144, 1, 8, 0, 0, 911]), (.goto 8, [2])], 0),
  ([(.aload_n 0, []), (.iconst 1, []), (.invokevirtual 80, [0, 142, 1, 8, 0, 0, 620])], 2),
  ([(.ireturn, [])], 0)])
def md_Town_leaked : gD := (yX9_leaked, cX9_leaked, 2, (some .int), 2, (0, 0), [0, 27, 32], [
  ([(.aload_n 0, []), (.iload_n 1, []), (.invokevirtual 133, [0, 148, 1, 8, 0, 0, 928]), (.ifCond .eq 22, [1]), (.aload_n 0, []), (.aload_n 0, []), (.getfield 34, [8, 4, 3, 575]), (.aload_n 0, []), (.getfield 20, [8, 2, 3, 573]), (.iload_n 1, []), (.invokevirtual 239, [0, 110, 2, 6, 0, 0, 1153]), (.invokevirtual 124, [0, 144, 1, 8, 0, 0, 911]), (.goto 8, [2])], 0),
  ([(.aload_n 0, []), (.iconst 1, []), (.invokevirtual 80, [0, 142, 1, 8, 0, 0, 620])], 2),
  ([(.ireturn, [])], 0)])
def md_Town_peace : gD := (yX9_peace, cX9_peace, 1, (some .int), 1, (0, 0), [0, 26, 27, 33, 38], [
  ([(.aload_n 0, []), (.invokevirtual 194, [0, 158, 0, 8, 0, 0, 1006]), (.ifCond .eq 29, [3]), (.aload_n 0, []), (.aload_n 0, []), (.getfield 34, [8, 4, 3, 575]), (.aload_n 0, []), (.getfield 20, [8, 2, 3, 573]), (.invokevirtual 242, [0, 111, 1, 6, 0, 0, 1161]), (.ifCond .eq 7, [1]), (.iconst 1, []), (.goto 4, [2])], 0),
  ([(.iconst 0, [])], 2),
  ([(.invokevirtual 124, [0, 144, 1, 8, 0, 0, 911]), (.goto 8, [4])], 0),
  ([(.aload_n 0, []), (.iconst 1, []), (.invokevirtual 80, [0, 142, 1, 8, 0, 0, 620])], 4),
  ([(.ireturn, [])], 0)])
def md_Town_guests : gD := (yX9_guests, cX9_guests, 2, (some .int), 2, (0, 0), [0, 27, 32], [
  ([(.aload_n 0, []), (.iload_n 1, []), (.invokevirtual 133, [0, 148, 1, 8, 0, 0, 928]), (.ifCond .eq 22, [1]), (.aload_n 0, []), (.aload_n 0, []), (.getfield 34, [8, 4, 3, 575]), (.aload_n 0, []), (.getfield 20, [8, 2, 3, 573]), (.iload_n 1, []), (.invokevirtual 246, [0, 112, 2, 6, 0, 0, 1176]), (.invokevirtual 124, [0, 144, 1, 8, 0, 0, 911]), (.goto 8, [2])], 0),
  ([(.aload_n 0, []), (.iconst 1, []), (.invokevirtual 80, [0, 142, 1, 8, 0, 0, 620])], 2),
  ([(.ireturn, [])], 0)])
def md_Town_together : gD := (yX9_together, cX9_together, 3, (some .int), 3, (0, 0), [0, 37, 42], [
  ([(.aload_n 0, []), (.iload_n 1, []), (.invokevirtual 149, [0, 150, 1, 8, 0, 0, 937]), (.ifCond .eq 32, [1]), (.aload_n 0, []), (.iload_n 2, []), (.invokevirtual 149, [0, 150, 1, 8, 0, 0, 937]), (.ifCond .eq 24, [1]), (.iload_n 1, []), (.iload_n 2, []), (.if_icmp .eq 19, [1]), (.aload_n 0, []), (.aload_n 0, []), (.getfield 34, [8, 4, 3, 575]), (.iload_n 1, []), (.iload_n 2, []), (.invokevirtual 249, [0, 113, 2, 6, 0, 0, 1184]), (.invokevirtual 124, [0, 144, 1, 8, 0, 0, 911]), (.goto 8, [2])], 0),
  ([(.aload_n 0, []), (.iconst 1, []), (.invokevirtual 80, [0, 142, 1, 8, 0, 0, 620])], 2),
  ([(.ireturn, [])], 0)])
def md_Town_fair : gD := (yX9_fair, cX9_fair, 2, (some .int), 2, (0, 0), [0, 27, 32], [
  ([(.aload_n 0, []), (.iload_n 1, []), (.invokevirtual 201, [0, 161, 1, 8, 0, 0, 1023]), (.ifCond .eq 22, [1]), (.aload_n 0, []), (.aload_n 0, []), (.getfield 34, [8, 4, 3, 575]), (.aload_n 0, []), (.getfield 20, [8, 2, 3, 573]), (.iload_n 1, []), (.invokevirtual 252, [0, 114, 2, 6, 0, 0, 1193]), (.invokevirtual 124, [0, 144, 1, 8, 0, 0, 911]), (.goto 8, [2])], 0),
  ([(.aload_n 0, []), (.iconst 1, []), (.invokevirtual 80, [0, 142, 1, 8, 0, 0, 620])], 2),
  ([(.ireturn, [])], 0)])
def md_Town_swap : gD := (yX9_swap, cX9_swap, 2, (some .int), 2, (0, 0), [0, 27, 32], [
  ([(.aload_n 0, []), (.iload_n 1, []), (.invokevirtual 201, [0, 161, 1, 8, 0, 0, 1023]), (.ifCond .eq 22, [1]), (.aload_n 0, []), (.aload_n 0, []), (.getfield 34, [8, 4, 3, 575]), (.aload_n 0, []), (.getfield 20, [8, 2, 3, 573]), (.iload_n 1, []), (.invokevirtual 255, [0, 115, 2, 6, 0, 0, 1201]), (.invokevirtual 124, [0, 144, 1, 8, 0, 0, 911]), (.goto 8, [2])], 0),
  ([(.aload_n 0, []), (.iconst 1, []), (.invokevirtual 80, [0, 142, 1, 8, 0, 0, 620])], 2),
  ([(.ireturn, [])], 0)])
def md_Town_peaceIn : gD := (yX9_peaceIn, cX9_peaceIn, 2, (some .int), 1, (0, 0), [0, 13, 15, 53], [
  ([(.aload_n 0, []), (.invokevirtual 194, [0, 158, 0, 8, 0, 0, 1006]), (.ifCond .ne 9, [1]), (.aload_n 0, []), (.iconst 1, []), (.invokevirtual 80, [0, 142, 1, 8, 0, 0, 620]), (.ireturn, [])], 0),
  ([(.iconst 0, []), (.istore_n 1, [])], 2),
  ([(.iload_n 1, []), (.bipush 40, []), (.if_icmp .gt 35, [3]), (.aload_n 0, []), (.getfield 62, [8, 9, 3, 580]), (.getfield 258, [2, 5, 0, 520]), (.ifCond .ge 25, [3]), (.aload_n 0, []), (.getfield 62, [8, 9, 3, 580]), (.aload_n 0, []), (.getfield 20, [8, 2, 3, 573]), (.aload_n 0, []), (.getfield 34, [8, 4, 3, 575]), (.iload_n 1, []), (.invokevirtual 261, [0, 47, 3, 2, 0, 0, 1222]), (.iinc 1 1, []), (.goto (-35), [2])], 0),
  ([(.aload_n 0, []), (.aload_n 0, []), (.getfield 62, [8, 9, 3, 580]), (.getfield 258, [2, 5, 0, 520]), (.invokevirtual 124, [0, 144, 1, 8, 0, 0, 911]), (.ireturn, [])], 0)])
def md_Town_churchIn : gD := (yX9_churchIn, cX9_churchIn, 2, (some .int), 2, (0, 0), [0, 13, 23, 29], [
  ([(.aload_n 0, []), (.invokevirtual 194, [0, 158, 0, 8, 0, 0, 1006]), (.ifCond .ne 9, [1]), (.aload_n 0, []), (.iconst 1, []), (.invokevirtual 80, [0, 142, 1, 8, 0, 0, 620]), (.ireturn, [])], 0),
  ([(.iload_n 1, []), (.ifCond .lt 9, [2]), (.iload_n 1, []), (.bipush 40, []), (.if_icmp .le 9, [3])], 2),
  ([(.aload_n 0, []), (.iconst 2, []), (.invokevirtual 80, [0, 142, 1, 8, 0, 0, 620]), (.ireturn, [])], 0),
  ([(.aload_n 0, []), (.getfield 62, [8, 9, 3, 580]), (.aload_n 0, []), (.getfield 20, [8, 2, 3, 573]), (.aload_n 0, []), (.getfield 34, [8, 4, 3, 575]), (.iload_n 1, []), (.invokevirtual 261, [0, 47, 3, 2, 0, 0, 1222]), (.aload_n 0, []), (.aload_n 0, []), (.getfield 62, [8, 9, 3, 580]), (.getfield 264, [2, 2, 3, 516]), (.iload_n 1, []), (.iaload, []), (.invokevirtual 124, [0, 144, 1, 8, 0, 0, 911]), (.ireturn, [])], 0)])
def md_Town_knowsIn : gD := (yX9_knowsIn, cX9_knowsIn, 3, (some .int), 3, (0, 0), [0, 14, 24, 30], [
  ([(.aload_n 0, []), (.iload_n 1, []), (.invokevirtual 149, [0, 150, 1, 8, 0, 0, 937]), (.ifCond .ne 9, [1]), (.aload_n 0, []), (.iconst 1, []), (.invokevirtual 80, [0, 142, 1, 8, 0, 0, 620]), (.ireturn, [])], 0),
  ([(.iload_n 2, []), (.ifCond .lt 9, [2]), (.iload_n 2, []), (.bipush 40, []), (.if_icmp .le 9, [3])], 2),
  ([(.aload_n 0, []), (.iconst 2, []), (.invokevirtual 80, [0, 142, 1, 8, 0, 0, 620]), (.ireturn, [])], 0),
  ([(.aload_n 0, []), (.getfield 62, [8, 9, 3, 580]), (.aload_n 0, []), (.getfield 20, [8, 2, 3, 573]), (.aload_n 0, []), (.getfield 34, [8, 4, 3, 575]), (.iload_n 2, []), (.invokevirtual 261, [0, 47, 3, 2, 0, 0, 1222]), (.aload_n 0, []), (.aload_n 0, []), (.getfield 62, [8, 9, 3, 580]), (.iload_n 1, []), (.iload_n 2, []), (.invokevirtual 267, [0, 50, 2, 2, 0, 0, 1280]), (.invokevirtual 124, [0, 144, 1, 8, 0, 0, 911]), (.ireturn, [])], 0)])
def md_Town_leaksIn : gD := (yX9_leaksIn, cX9_leaksIn, 3, (some .int), 2, (0, 0), [0, 15, 21, 23, 67, 73], [
  ([(.aload_n 0, []), (.iload_n 1, []), (.invokevirtual 133, [0, 148, 1, 8, 0, 0, 928]), (.ifCond .eq 10, [1]), (.aload_n 0, []), (.invokevirtual 194, [0, 158, 0, 8, 0, 0, 1006]), (.ifCond .ne 9, [2])], 1),
  ([(.aload_n 0, []), (.iconst 1, []), (.invokevirtual 80, [0, 142, 1, 8, 0, 0, 620]), (.ireturn, [])], 0),
  ([(.iconst 0, []), (.istore_n 2, [])], 3),
  ([(.iload_n 2, []), (.bipush 40, []), (.if_icmp .gt 47, [5]), (.aload_n 0, []), (.getfield 62, [8, 9, 3, 580]), (.aload_n 0, []), (.getfield 20, [8, 2, 3, 573]), (.aload_n 0, []), (.getfield 34, [8, 4, 3, 575]), (.iload_n 2, []), (.invokevirtual 261, [0, 47, 3, 2, 0, 0, 1222]), (.aload_n 0, []), (.getfield 62, [8, 9, 3, 580]), (.aload_n 0, []), (.getfield 20, [8, 2, 3, 573]), (.iload_n 1, []), (.iload_n 2, []), (.invokevirtual 270, [0, 51, 3, 2, 0, 0, 1288]), (.ifCond .eq 9, [4]), (.aload_n 0, []), (.iload_n 2, []), (.invokevirtual 124, [0, 144, 1, 8, 0, 0, 911]), (.ireturn, [])], 0),
  ([(.iinc 2 1, []), (.goto (-47), [3])], 0),
  ([(.aload_n 0, []), (.bipush (-2), []), (.invokevirtual 124, [0, 144, 1, 8, 0, 0, 911]), (.ireturn, [])], 0)])
def md_Town_crossed : gD := (yX9_crossed, cX9_crossed, 1, (some .int), 1, (0, 0), [0, 29, 34], [
  ([(.aload_n 0, []), (.invokevirtual 194, [0, 158, 0, 8, 0, 0, 1006]), (.ifCond .eq 25, [1]), (.aload_n 0, []), (.aload_n 0, []), (.getfield 69, [8, 10, 3, 581]), (.aload_n 0, []), (.getfield 20, [8, 2, 3, 573]), (.aload_n 0, []), (.getfield 34, [8, 4, 3, 575]), (.invokevirtual 274, [0, 10, 2, 0, 0, 0, 1298]), (.invokevirtual 124, [0, 144, 1, 8, 0, 0, 911]), (.goto 8, [2])], 0),
  ([(.aload_n 0, []), (.iconst 1, []), (.invokevirtual 80, [0, 142, 1, 8, 0, 0, 620])], 2),
  ([(.ireturn, [])], 0)])
def md_Town_bridge : gD := (yX9_bridge, cX9_bridge, 3, (some .int), 3, (0, 0), [0, 14, 45, 52], [
  ([(.aload_n 0, []), (.iload_n 1, []), (.invokevirtual 278, [0, 183, 1, 8, 0, 0, 1336]), (.ifCond .ne 9, [1]), (.aload_n 0, []), (.iconst 1, []), (.invokevirtual 80, [0, 142, 1, 8, 0, 0, 620]), (.ireturn, [])], 0),
  ([(.aload_n 0, []), (.getfield 69, [8, 10, 3, 581]), (.aload_n 0, []), (.getfield 20, [8, 2, 3, 573]), (.aload_n 0, []), (.getfield 34, [8, 4, 3, 575]), (.iload_n 1, []), (.invokevirtual 281, [0, 18, 3, 0, 0, 0, 1340]), (.aload_n 0, []), (.iload_n 2, []), (.ifCond .eq 13, [2]), (.aload_n 0, []), (.getfield 69, [8, 10, 3, 581]), (.getfield 284, [0, 7, 0, 549]), (.goto 10, [3])], 0),
  ([(.aload_n 0, []), (.getfield 69, [8, 10, 3, 581]), (.getfield 287, [0, 6, 0, 547])], 3),
  ([(.invokevirtual 124, [0, 144, 1, 8, 0, 0, 911]), (.ireturn, [])], 0)])
def md_Town_isOrder : gD := (yX9_isOrder, cX9_isOrder, 2, (some .boolean), 2, (0, 0), [0, 20, 21], [
  ([(.aload_n 0, []), (.invokevirtual 194, [0, 158, 0, 8, 0, 0, 1006]), (.ifCond .eq 16, [1]), (.iload_n 1, []), (.ifCond .lt 12, [1]), (.iload_n 1, []), (.iconst 2, []), (.if_icmp .gt 7, [1]), (.iconst 1, []), (.goto 4, [2])], 0),
  ([(.iconst 0, [])], 2),
  ([(.ireturn, [])], 0)])
def md_Town_lastOver : gD := (yX9_lastOver, cX9_lastOver, 2, (some .int), 2, (0, 0), [0, 14], [
  ([(.aload_n 0, []), (.iload_n 1, []), (.invokevirtual 278, [0, 183, 1, 8, 0, 0, 1336]), (.ifCond .ne 9, [1]), (.aload_n 0, []), (.iconst 1, []), (.invokevirtual 80, [0, 142, 1, 8, 0, 0, 620]), (.ireturn, [])], 0),
  ([(.aload_n 0, []), (.getfield 69, [8, 10, 3, 581]), (.aload_n 0, []), (.getfield 20, [8, 2, 3, 573]), (.aload_n 0, []), (.getfield 34, [8, 4, 3, 575]), (.iload_n 1, []), (.invokevirtual 281, [0, 18, 3, 0, 0, 0, 1340]), (.aload_n 0, []), (.aload_n 0, []), (.getfield 69, [8, 10, 3, 581]), (.getfield 290, [0, 8, 0, 551]), (.invokevirtual 124, [0, 144, 1, 8, 0, 0, 911]), (.ireturn, [])], 0)])
def md_Town_rests : gD := (yX9_rests, cX9_rests, 3, (some .int), 2, (0, 0), [0, 25, 30], [
  ([(.aload_n 0, []), (.iload_n 1, []), (.invokevirtual 293, [0, 186, 1, 8, 0, 0, 1360]), (.istore_n 2, []), (.iload_n 2, []), (.ifCond .ne 18, [1]), (.aload_n 0, []), (.aload_n 0, []), (.getfield 20, [8, 2, 3, 573]), (.iload_n 1, []), (.invokestatic 296, [1, 0, 2, 0, 0, 1364]), (.invokevirtual 124, [0, 144, 1, 8, 0, 0, 911]), (.goto 8, [2])], 0),
  ([(.aload_n 0, []), (.iload_n 2, []), (.invokevirtual 80, [0, 142, 1, 8, 0, 0, 620])], 2),
  ([(.ireturn, [])], 0)])
def md_Town_bargainTrouble : gD := (yX9_bargainTrouble, cX9_bargainTrouble, 2, (some .int), 2, (0, 0), [0, 10, 25, 27], [
  ([(.aload_n 0, []), (.iload_n 1, []), (.invokevirtual 133, [0, 148, 1, 8, 0, 0, 928]), (.ifCond .ne 5, [1]), (.iconst 1, []), (.ireturn, [])], 0),
  ([(.aload_n 0, []), (.getfield 20, [8, 2, 3, 573]), (.iload_n 1, []), (.invokevirtual 146, [0, 134, 1, 7, 0, 0, 932]), (.ifCond .eq 7, [2]), (.iconst 0, []), (.goto 5, [3])], 0),
  ([(.bipush 6, [])], 3),
  ([(.ireturn, [])], 0)])
def md_Town_holds : gD := (yX9_holds, cX9_holds, 4, (some .int), 3, (0, 0), [0, 26, 31], [
  ([(.aload_n 0, []), (.iload_n 1, []), (.invokevirtual 293, [0, 186, 1, 8, 0, 0, 1360]), (.istore_n 3, []), (.iload_n 3, []), (.ifCond .ne 19, [1]), (.aload_n 0, []), (.aload_n 0, []), (.getfield 20, [8, 2, 3, 573]), (.iload_n 1, []), (.iload_n 2, []), (.invokestatic 301, [1, 2, 3, 0, 0, 1374]), (.invokevirtual 124, [0, 144, 1, 8, 0, 0, 911]), (.goto 8, [2])], 0),
  ([(.aload_n 0, []), (.iload_n 3, []), (.invokevirtual 80, [0, 142, 1, 8, 0, 0, 620])], 2),
  ([(.ireturn, [])], 0)])
def md_Town_plays : gD := (yX9_plays, cX9_plays, 6, (some .int), 5, (0, 0), [0, 14, 20, 39, 66, 71], [
  ([(.iload_n 2, []), (.invokestatic 305, [1, 4, 1, 0, 0, 1385]), (.ifCond .eq 10, [1]), (.iload_n 3, []), (.invokestatic 305, [1, 4, 1, 0, 0, 1385]), (.ifCond .ne 9, [2])], 1),
  ([(.aload_n 0, []), (.iconst 1, []), (.invokevirtual 80, [0, 142, 1, 8, 0, 0, 620]), (.ireturn, [])], 0),
  ([(.aload_n 0, []), (.iload_n 1, []), (.invokevirtual 293, [0, 186, 1, 8, 0, 0, 1360]), (.istore 5, []), (.iload 5, []), (.ifCond .eq 10, [3]), (.aload_n 0, []), (.iload 5, []), (.invokevirtual 80, [0, 142, 1, 8, 0, 0, 620]), (.ireturn, [])], 0),
  ([(.iload 4, []), (.invokestatic 308, [1, 5, 1, 0, 0, 1388]), (.ifCond .eq 22, [4]), (.aload_n 0, []), (.aload_n 0, []), (.getfield 20, [8, 2, 3, 573]), (.iload_n 1, []), (.iload_n 2, []), (.iload_n 3, []), (.iload 4, []), (.invokestatic 311, [1, 6, 5, 0, 0, 1391]), (.invokevirtual 124, [0, 144, 1, 8, 0, 0, 911]), (.goto 8, [5])], 0),
  ([(.aload_n 0, []), (.iconst 2, []), (.invokevirtual 80, [0, 142, 1, 8, 0, 0, 620])], 5),
  ([(.ireturn, [])], 0)])
def md_Town_bestRule : gD := (yX9_bestRule, cX9_bestRule, 4, (some .int), 3, (0, 0), [0, 16, 39, 44], [
  ([(.aload_n 0, []), (.iload_n 1, []), (.invokevirtual 293, [0, 186, 1, 8, 0, 0, 1360]), (.istore_n 3, []), (.iload_n 3, []), (.ifCond .eq 9, [1]), (.aload_n 0, []), (.iload_n 3, []), (.invokevirtual 80, [0, 142, 1, 8, 0, 0, 620]), (.ireturn, [])], 0),
  ([(.iload_n 2, []), (.invokestatic 308, [1, 5, 1, 0, 0, 1388]), (.ifCond .eq 19, [2]), (.aload_n 0, []), (.aload_n 0, []), (.getfield 20, [8, 2, 3, 573]), (.iload_n 1, []), (.iload_n 2, []), (.invokestatic 315, [1, 8, 3, 0, 0, 1401]), (.invokevirtual 124, [0, 144, 1, 8, 0, 0, 911]), (.goto 8, [3])], 0),
  ([(.aload_n 0, []), (.iconst 2, []), (.invokevirtual 80, [0, 142, 1, 8, 0, 0, 620])], 3),
  ([(.ireturn, [])], 0)])
def md_Town_fits : gD := (yX9_fits, cX9_fits, 2, (some .int), 2, (0, 0), [0, 23, 28], [
  ([(.aload_n 0, []), (.iload_n 1, []), (.invokevirtual 201, [0, 161, 1, 8, 0, 0, 1023]), (.ifCond .eq 18, [1]), (.aload_n 0, []), (.aload_n 0, []), (.iload_n 1, []), (.invokevirtual 318, [0, 191, 1, 8, 0, 0, 1409]), (.getfield 211, [1, 13, 0, 458]), (.invokevirtual 124, [0, 144, 1, 8, 0, 0, 911]), (.goto 8, [2])], 0),
  ([(.aload_n 0, []), (.iconst 1, []), (.invokevirtual 80, [0, 142, 1, 8, 0, 0, 620])], 2),
  ([(.ireturn, [])], 0)])
def md_Town_fitsOf : gD := (yX9_fitsOf, cX9_fitsOf, 3, (some (.object "OtherTown$Finder")), 2, (0, 0), [0, 13, 14], [
  ([(.aload_n 0, []), (.getfield 52, [8, 7, 3, 578]), (.iload_n 1, []), (.iconst 1, []), (.if_icmp .ne 7, [1]), (.iconst 1, []), (.goto 4, [2])], 0),
  ([(.iconst 0, [])], 2),
  ([(.aaload, []), (.astore_n 2, []), (.aload_n 2, []), (.aload_n 0, []), (.getfield 20, [8, 2, 3, 573]), (.iload_n 1, []), (.invokevirtual 403, [0, 38, 2, 1, 0, 0, 1413]), (.aload_n 2, []), (.areturn, [])], 0)])
def md_Town_could : gD := (yX9_could, cX9_could, 2, (some .int), 2, (0, 0), [0, 14], [
  ([(.aload_n 0, []), (.iload_n 1, []), (.invokevirtual 149, [0, 150, 1, 8, 0, 0, 937]), (.ifCond .ne 9, [1]), (.aload_n 0, []), (.iconst 1, []), (.invokevirtual 80, [0, 142, 1, 8, 0, 0, 620]), (.ireturn, [])], 0),
  ([(.aload_n 0, []), (.aload_n 0, []), (.aload_n 0, []), (.getfield 20, [8, 2, 3, 573]), (.iload_n 1, []), (.invokevirtual 158, [0, 130, 1, 7, 0, 0, 941]), (.invokevirtual 318, [0, 191, 1, 8, 0, 0, 1409]), (.aload_n 0, []), (.getfield 20, [8, 2, 3, 573]), (.iload_n 1, []), (.invokevirtual 321, [0, 40, 2, 1, 0, 0, 1425]), (.invokevirtual 124, [0, 144, 1, 8, 0, 0, 911]), (.ireturn, [])], 0)])
def md_Town_surely : gD := (yX9_surely, cX9_surely, 2, (some .int), 2, (0, 0), [0, 14], [
  ([(.aload_n 0, []), (.iload_n 1, []), (.invokevirtual 149, [0, 150, 1, 8, 0, 0, 937]), (.ifCond .ne 9, [1]), (.aload_n 0, []), (.iconst 1, []), (.invokevirtual 80, [0, 142, 1, 8, 0, 0, 620]), (.ireturn, [])], 0),
  ([(.aload_n 0, []), (.aload_n 0, []), (.aload_n 0, []), (.getfield 20, [8, 2, 3, 573]), (.iload_n 1, []), (.invokevirtual 158, [0, 130, 1, 7, 0, 0, 941]), (.invokevirtual 318, [0, 191, 1, 8, 0, 0, 1409]), (.aload_n 0, []), (.getfield 20, [8, 2, 3, 573]), (.iload_n 1, []), (.invokevirtual 324, [0, 42, 2, 1, 0, 0, 1437]), (.invokevirtual 124, [0, 144, 1, 8, 0, 0, 911]), (.ireturn, [])], 0)])
def md_Town_fitsWith : gD := (yX9_fitsWith, cX9_fitsWith, 3, (some .int), 3, (0, 0), [0, 16, 22], [
  ([(.aload_n 0, []), (.iload_n 1, []), (.invokevirtual 149, [0, 150, 1, 8, 0, 0, 937]), (.ifCond .eq 11, [1]), (.aload_n 0, []), (.iload_n 2, []), (.invokevirtual 327, [0, 195, 1, 8, 0, 0, 1446]), (.ifCond .ne 9, [2])], 1),
  ([(.aload_n 0, []), (.iconst 1, []), (.invokevirtual 80, [0, 142, 1, 8, 0, 0, 620]), (.ireturn, [])], 0),
  ([(.aload_n 0, []), (.aload_n 0, []), (.aload_n 0, []), (.getfield 20, [8, 2, 3, 573]), (.iload_n 1, []), (.invokevirtual 158, [0, 130, 1, 7, 0, 0, 941]), (.invokevirtual 318, [0, 191, 1, 8, 0, 0, 1409]), (.iload_n 1, []), (.iload_n 2, []), (.invokevirtual 330, [0, 41, 2, 1, 0, 0, 1450]), (.invokevirtual 124, [0, 144, 1, 8, 0, 0, 911]), (.ireturn, [])], 0)])
def md_Town_isPlace : gD := (yX9_isPlace, cX9_isPlace, 2, (some .boolean), 2, (0, 0), [0, 14, 18, 19], [
  ([(.iload_n 1, []), (.bipush (-2), []), (.if_icmp .eq 11, [1]), (.aload_n 0, []), (.iload_n 1, []), (.invokevirtual 173, [0, 152, 1, 8, 0, 0, 950]), (.ifCond .eq 7, [2])], 1),
  ([(.iconst 1, []), (.goto 4, [3])], 0),
  ([(.iconst 0, [])], 3),
  ([(.ireturn, [])], 0)])
def md_Town_ask : gD := (yX9_ask, cX9_ask, 3, (some .int), 2, (0, 0), [0, 14, 45, 50], [
  ([(.aload_n 0, []), (.iload_n 1, []), (.invokevirtual 201, [0, 161, 1, 8, 0, 0, 1023]), (.ifCond .ne 9, [1]), (.aload_n 0, []), (.iconst 1, []), (.invokevirtual 80, [0, 142, 1, 8, 0, 0, 620]), (.ireturn, [])], 0),
  ([(.aload_n 0, []), (.iload_n 1, []), (.invokevirtual 318, [0, 191, 1, 8, 0, 0, 1409]), (.aload_n 0, []), (.getfield 20, [8, 2, 3, 573]), (.iconst 1, []), (.iload_n 1, []), (.isub, []), (.invokevirtual 333, [0, 43, 2, 1, 0, 0, 1455]), (.istore_n 2, []), (.iload_n 2, []), (.bipush (-2), []), (.if_icmp .ne 12, [2]), (.aload_n 0, []), (.bipush 6, []), (.invokevirtual 80, [0, 142, 1, 8, 0, 0, 620]), (.goto 8, [3])], 0),
  ([(.aload_n 0, []), (.iload_n 2, []), (.invokevirtual 124, [0, 144, 1, 8, 0, 0, 911])], 3),
  ([(.ireturn, [])], 0)])
def md_Town_lays : gD := (yX9_lays, cX9_lays, 3, (some .boolean), 3, (0, 0), [0, 16, 22, 41], [
  ([(.aload_n 0, []), (.iload_n 1, []), (.invokevirtual 149, [0, 150, 1, 8, 0, 0, 937]), (.ifCond .eq 11, [1]), (.aload_n 0, []), (.iload_n 2, []), (.invokevirtual 327, [0, 195, 1, 8, 0, 0, 1446]), (.ifCond .ne 9, [2])], 1),
  ([(.aload_n 0, []), (.iconst 1, []), (.invokevirtual 336, [0, 198, 1, 8, 0, 0, 1467]), (.ireturn, [])], 0),
  ([(.aload_n 0, []), (.getfield 34, [8, 4, 3, 575]), (.getfield 183, [6, 0, 3, 360]), (.iload_n 1, []), (.iaload, []), (.iload_n 2, []), (.if_icmp .ne 9, [3]), (.aload_n 0, []), (.iconst 5, []), (.invokevirtual 336, [0, 198, 1, 8, 0, 0, 1467]), (.ireturn, [])], 0),
  ([(.aload_n 0, []), (.getfield 41, [8, 5, 3, 576]), (.aload_n 0, []), (.getfield 34, [8, 4, 3, 575]), (.invokevirtual 339, [0, 54, 1, 3, 0, 0, 1471]), (.aload_n 0, []), (.getfield 34, [8, 4, 3, 575]), (.getfield 183, [6, 0, 3, 360]), (.iload_n 1, []), (.iload_n 2, []), (.iastore, []), (.aload_n 0, []), (.invokevirtual 118, [0, 143, 0, 8, 0, 0, 903]), (.aload_n 0, []), (.invokevirtual 343, [0, 199, 0, 8, 0, 0, 1477]), (.ireturn, [])], 0)])
def md_Town_refuses : gD := (yX9_refuses, cX9_refuses, 2, (some .boolean), 2, (0, 0), [0], [
  ([(.aload_n 0, []), (.iload_n 1, []), (.putfield 73, [8, 11, 0, 582]), (.iconst 0, []), (.ireturn, [])], 0)])
def md_Town_grants : gD := (yX9_grants, cX9_grants, 1, (some .boolean), 1, (0, 0), [0], [
  ([(.aload_n 0, []), (.iconst 0, []), (.putfield 73, [8, 11, 0, 582]), (.iconst 1, []), (.ireturn, [])], 0)])
def md_Town_laysBest : gD := (yX9_laysBest, cX9_laysBest, 4, (some .int), 2, (0, 0), [0, 14], [
  ([(.aload_n 0, []), (.iload_n 1, []), (.invokevirtual 201, [0, 161, 1, 8, 0, 0, 1023]), (.ifCond .ne 9, [1]), (.aload_n 0, []), (.iconst 1, []), (.invokevirtual 80, [0, 142, 1, 8, 0, 0, 620]), (.ireturn, [])], 0),
  ([(.aload_n 0, []), (.iload_n 1, []), (.invokevirtual 214, [0, 164, 1, 8, 0, 0, 1095]), (.astore_n 2, []), (.aload_n 0, []), (.getfield 41, [8, 5, 3, 576]), (.aload_n 0, []), (.getfield 34, [8, 4, 3, 575]), (.invokevirtual 339, [0, 54, 1, 3, 0, 0, 1471]), (.aload_n 2, []), (.aload_n 0, []), (.getfield 20, [8, 2, 3, 573]), (.aload_n 0, []), (.getfield 34, [8, 4, 3, 575]), (.iload_n 1, []), (.invokevirtual 346, [0, 37, 3, 1, 0, 0, 1485]), (.aload_n 2, []), (.getfield 221, [1, 15, 0, 461]), (.istore_n 3, []), (.aload_n 0, []), (.invokevirtual 118, [0, 143, 0, 8, 0, 0, 903]), (.aload_n 0, []), (.iload_n 3, []), (.invokevirtual 124, [0, 144, 1, 8, 0, 0, 911]), (.ireturn, [])], 0)])
def md_Town_night : gD := (yX9_night, cX9_night, 1, (some .int), 1, (0, 0), [0, 13, 35], [
  ([(.aload_n 0, []), (.invokevirtual 194, [0, 158, 0, 8, 0, 0, 1006]), (.ifCond .ne 9, [1]), (.aload_n 0, []), (.iconst 1, []), (.invokevirtual 80, [0, 142, 1, 8, 0, 0, 620]), (.ireturn, [])], 0),
  ([(.aload_n 0, []), (.getfield 34, [8, 4, 3, 575]), (.aload_n 0, []), (.getfield 20, [8, 2, 3, 573]), (.invokevirtual 197, [0, 107, 1, 6, 0, 0, 1010]), (.bipush (-2), []), (.if_icmp .eq 9, [2]), (.aload_n 0, []), (.iconst 5, []), (.invokevirtual 80, [0, 142, 1, 8, 0, 0, 620]), (.ireturn, [])], 0),
  ([(.aload_n 0, []), (.getfield 41, [8, 5, 3, 576]), (.aload_n 0, []), (.getfield 34, [8, 4, 3, 575]), (.invokevirtual 339, [0, 54, 1, 3, 0, 0, 1471]), (.aload_n 0, []), (.getfield 34, [8, 4, 3, 575]), (.aload_n 0, []), (.getfield 20, [8, 2, 3, 573]), (.invokevirtual 349, [0, 120, 1, 6, 0, 0, 1490]), (.aload_n 0, []), (.invokevirtual 118, [0, 143, 0, 8, 0, 0, 903]), (.aload_n 0, []), (.aload_n 0, []), (.getfield 34, [8, 4, 3, 575]), (.getfield 352, [6, 7, 0, 373]), (.invokevirtual 124, [0, 144, 1, 8, 0, 0, 911]), (.ireturn, [])], 0)])
def md_Town_nights : gD := (yX9_nights, cX9_nights, 3, (some .int), 2, (0, 0), [0, 13, 24, 30, 43, 69], [
  ([(.aload_n 0, []), (.invokevirtual 194, [0, 158, 0, 8, 0, 0, 1006]), (.ifCond .ne 9, [1]), (.aload_n 0, []), (.iconst 1, []), (.invokevirtual 80, [0, 142, 1, 8, 0, 0, 620]), (.ireturn, [])], 0),
  ([(.iload_n 1, []), (.iconst 1, []), (.if_icmp .lt 9, [2]), (.iload_n 1, []), (.bipush 40, []), (.if_icmp .le 9, [3])], 2),
  ([(.aload_n 0, []), (.iconst 2, []), (.invokevirtual 80, [0, 142, 1, 8, 0, 0, 620]), (.ireturn, [])], 0),
  ([(.aload_n 0, []), (.getfield 41, [8, 5, 3, 576]), (.aload_n 0, []), (.getfield 34, [8, 4, 3, 575]), (.invokevirtual 339, [0, 54, 1, 3, 0, 0, 1471]), (.iconst 0, []), (.istore_n 2, [])], 4),
  ([(.iload_n 2, []), (.iload_n 1, []), (.if_icmp .ge 24, [5]), (.aload_n 0, []), (.getfield 55, [8, 8, 3, 579]), (.aload_n 0, []), (.getfield 20, [8, 2, 3, 573]), (.aload_n 0, []), (.getfield 34, [8, 4, 3, 575]), (.invokevirtual 355, [0, 36, 2, 1, 0, 0, 1495]), (.iinc 2 1, []), (.goto (-23), [4])], 0),
  ([(.aload_n 0, []), (.invokevirtual 118, [0, 143, 0, 8, 0, 0, 903]), (.aload_n 0, []), (.aload_n 0, []), (.getfield 34, [8, 4, 3, 575]), (.getfield 352, [6, 7, 0, 373]), (.invokevirtual 124, [0, 144, 1, 8, 0, 0, 911]), (.ireturn, [])], 0)])
def md_Town_seed : gD := (yX9_seed, cX9_seed, 2, (some .boolean), 2, (0, 0), [0, 13, 24, 30], [
  ([(.aload_n 0, []), (.invokevirtual 194, [0, 158, 0, 8, 0, 0, 1006]), (.ifCond .ne 9, [1]), (.aload_n 0, []), (.iconst 1, []), (.invokevirtual 336, [0, 198, 1, 8, 0, 0, 1467]), (.ireturn, [])], 0),
  ([(.iload_n 1, []), (.ifCond .lt 10, [2]), (.iload_n 1, []), (.ldc_w 359, [0, 65537, 1500]), (.if_icmp .lt 9, [3])], 2),
  ([(.aload_n 0, []), (.iconst 2, []), (.invokevirtual 336, [0, 198, 1, 8, 0, 0, 1467]), (.ireturn, [])], 0),
  ([(.aload_n 0, []), (.getfield 34, [8, 4, 3, 575]), (.iload_n 1, []), (.putfield 360, [6, 6, 0, 371]), (.aload_n 0, []), (.invokevirtual 118, [0, 143, 0, 8, 0, 0, 903]), (.aload_n 0, []), (.invokevirtual 343, [0, 199, 0, 8, 0, 0, 1477]), (.ireturn, [])], 0)])
def md_Town_undo : gD := (yX9_undo, cX9_undo, 1, (some .boolean), 1, (0, 0), [0, 17], [
  ([(.aload_n 0, []), (.getfield 41, [8, 5, 3, 576]), (.getfield 363, [3, 2, 0, 403]), (.ifCond .ne 10, [1]), (.aload_n 0, []), (.bipush 6, []), (.invokevirtual 336, [0, 198, 1, 8, 0, 0, 1467]), (.ireturn, [])], 0),
  ([(.aload_n 0, []), (.getfield 41, [8, 5, 3, 576]), (.aload_n 0, []), (.getfield 34, [8, 4, 3, 575]), (.invokevirtual 366, [0, 55, 1, 3, 0, 0, 1505]), (.aload_n 0, []), (.invokevirtual 118, [0, 143, 0, 8, 0, 0, 903]), (.aload_n 0, []), (.invokevirtual 343, [0, 199, 0, 8, 0, 0, 1477]), (.ireturn, [])], 0)])
def md_Town_image : gD := (yX9_image, cX9_image, 2, (some .int), 1, (0, 0), [0, 13, 38, 43], [
  ([(.aload_n 0, []), (.invokevirtual 194, [0, 158, 0, 8, 0, 0, 1006]), (.ifCond .ne 9, [1]), (.aload_n 0, []), (.iconst 1, []), (.invokevirtual 80, [0, 142, 1, 8, 0, 0, 620]), (.ireturn, [])], 0),
  ([(.aload_n 0, []), (.getfield 41, [8, 5, 3, 576]), (.aload_n 0, []), (.getfield 34, [8, 4, 3, 575]), (.invokevirtual 369, [0, 56, 1, 3, 0, 0, 1513]), (.istore_n 1, []), (.iload_n 1, []), (.iconst (-1), []), (.if_icmp .ne 11, [2]), (.aload_n 0, []), (.iconst 3, []), (.invokevirtual 80, [0, 142, 1, 8, 0, 0, 620]), (.goto 8, [3])], 0),
  ([(.aload_n 0, []), (.iload_n 1, []), (.invokevirtual 124, [0, 144, 1, 8, 0, 0, 911])], 3),
  ([(.ireturn, [])], 0)])
def md_Town_back : gD := (yX9_back, cX9_back, 2, (some .boolean), 2, (0, 0), [0, 21], [
  ([(.aload_n 0, []), (.getfield 41, [8, 5, 3, 576]), (.aload_n 0, []), (.getfield 34, [8, 4, 3, 575]), (.iload_n 1, []), (.invokevirtual 373, [0, 57, 2, 3, 0, 0, 1521]), (.ifCond .ne 9, [1]), (.aload_n 0, []), (.iconst 1, []), (.invokevirtual 336, [0, 198, 1, 8, 0, 0, 1467]), (.ireturn, [])], 0),
  ([(.aload_n 0, []), (.invokevirtual 118, [0, 143, 0, 8, 0, 0, 903]), (.aload_n 0, []), (.invokevirtual 343, [0, 199, 0, 8, 0, 0, 1477]), (.ireturn, [])], 0)])
def md_Town_size : gD := (yX9_size, cX9_size, 2, (some .int), 2, (0, 0), [0, 19, 76, 84, 92, 100, 110, 118, 126, 134, 142, 150, 155], [
  ([(.iload_n 1, []), (.ifCond .lt 18, [1]), (.iload_n 1, []), (.iconst 3, []), (.if_icmp .gt 13, [1]), (.aload_n 0, []), (.getfield 20, [8, 2, 3, 573]), (.getfield 384, [7, 0, 3, 185]), (.iload_n 1, []), (.iaload, []), (.ireturn, [])], 0),
  ([(.iload_n 1, []), (.tableswitch 135 4 13 #[56, 64, 72, 80, 90, 98, 106, 114, 122, 130], [12, 2, 3, 4, 5, 6, 7, 8, 9, 10, 11])], 0),
  ([(.aload_n 0, []), (.getfield 20, [8, 2, 3, 573]), (.getfield 387, [7, 1, 0, 189]), (.ireturn, [])], 0),
  ([(.aload_n 0, []), (.getfield 20, [8, 2, 3, 573]), (.getfield 390, [7, 6, 0, 207]), (.ireturn, [])], 0),
  ([(.aload_n 0, []), (.getfield 20, [8, 2, 3, 573]), (.getfield 121, [7, 8, 0, 215]), (.ireturn, [])], 0),
  ([(.aload_n 0, []), (.getfield 20, [8, 2, 3, 573]), (.getfield 384, [7, 0, 3, 185]), (.iconst 4, []), (.iaload, []), (.ireturn, [])], 0),
  ([(.aload_n 0, []), (.getfield 20, [8, 2, 3, 573]), (.getfield 393, [7, 19, 0, 253]), (.ireturn, [])], 0),
  ([(.aload_n 0, []), (.getfield 34, [8, 4, 3, 575]), (.getfield 352, [6, 7, 0, 373]), (.ireturn, [])], 0),
  ([(.aload_n 0, []), (.getfield 34, [8, 4, 3, 575]), (.getfield 360, [6, 6, 0, 371]), (.ireturn, [])], 0),
  ([(.aload_n 0, []), (.getfield 41, [8, 5, 3, 576]), (.getfield 363, [3, 2, 0, 403]), (.ireturn, [])], 0),
  ([(.aload_n 0, []), (.getfield 41, [8, 5, 3, 576]), (.getfield 396, [3, 4, 0, 406]), (.ireturn, [])], 0),
  ([(.aload_n 0, []), (.getfield 13, [8, 1, 0, 572]), (.ireturn, [])], 0),
  ([(.iconst (-1), []), (.ireturn, [])], 0)])
def md_Town_trouble : gD := (yX9_trouble, cX9_trouble, 1, (some .int), 1, (0, 0), [0], [
  ([(.aload_n 0, []), (.getfield 73, [8, 11, 0, 582]), (.ireturn, [])], 0)])
def md_Model_init : gD := (yX10_init, cX10_init, 1, none, 1, (17, 6272), [0], [
  ([(.aload_n 0, []), (.invokespecial 1, [4, 1611]), (.aload_n 0, []), (.sipush 900, []), (.newarray .int, [1]), (.putfield 7, [9, 1, 3, 1613]), (.aload_n 0, []), (.iconst (-1), []), (.putfield 13, [9, 10, 0, 1622]), (.aload_n 0, []), (.bipush 8, []), (.newarray .int, [1]), (.putfield 17, [9, 12, 3, 1624]), (.aload_n 0, []), (.sipush 358, []), (.newarray .int, [1]), (.putfield 20, [9, 15, 3, 1627]), (.aload_n 0, []), (.sipush 358, []), (.newarray .int, [1]), (.putfield 23, [9, 16, 3, 1628]), (.aload_n 0, []), (.sipush 262, []), (.newarray .int, [1]), (.putfield 26, [9, 17, 3, 1629]), (.aload_n 0, []), (.sipush 262, []), (.newarray .int, [1]), (.putfield 29, [9, 18, 3, 1630]), (.aload_n 0, []), (.sipush 3144, []), (.newarray .int, [1]), (.putfield 32, [9, 19, 3, 1631]), (.aload_n 0, []), (.sipush 786, []), (.newarray .int, [1]), (.putfield 35, [9, 20, 3, 1632]), (.aload_n 0, []), (.bipush 10, []), (.newarray .int, [1]), (.putfield 38, [9, 23, 3, 1635]), (.aload_n 0, []), (.bipush 10, []), (.newarray .int, [1]), (.putfield 41, [9, 30, 3, 1642]), (.aload_n 0, []), (.sipush 130, []), (.newarray .int, [1]), (.putfield 44, [9, 31, 3, 1643]), (.aload_n 0, []), (.bipush 12, []), (.newarray .int, [1]), (.putfield 47, [9, 32, 3, 1644]), (.aload_n 0, []), (.bipush 10, []), (.newarray .int, [1]), (.putfield 50, [9, 33, 3, 1645]), (.aload_n 0, []), (.bipush 10, []), (.newarray .int, [1]), (.putfield 53, [9, 34, 3, 1646]), (.aload_n 0, []), (.iconst 3, []), (.newarray .int, [1]), (.putfield 56, [9, 35, 3, 1647]), (.aload_n 0, []), (.iconst 3, []), (.newarray .int, [1]), (.putfield 59, [9, 36, 3, 1648]), (.aload_n 0, []), (.bipush 6, []), (.newarray .int, [1]), (.putfield 62, [9, 37, 3, 1649]), (.return_, [])], 0)])
def md_Model_thrown : gD := (yX10_thrown, cX10_thrown, 1, (some .int), 1, (0, 0), [0], [
  ([(.aload_n 0, []), (.getfield 65, [9, 0, 0, 1612]), (.ireturn, [])], 0)])
def md_Model_feed : gD := (yX10_feed, cX10_feed, 8, (some .int), 6, (0, 0), [0, 20, 23, 40, 51, 62, 74, 76, 120], [
  ([(.aload_n 0, []), (.iconst 0, []), (.putfield 65, [9, 0, 0, 1612]), (.aload_n 0, []), (.getfield 71, [9, 2, 0, 1614]), (.bipush 20, []), (.iadd, []), (.sipush 900, []), (.if_icmp .le 5, [1]), (.iconst (-1), []), (.ireturn, [])], 0),
  ([(.iconst 0, []), (.istore 6, [])], 2),
  ([(.iload 6, []), (.bipush 20, []), (.if_icmp .ge 93, [8]), (.iload 6, []), (.iconst 4, []), (.if_icmp .ge 7, [3]), (.iload_n 1, []), (.goto 39, [7])], 0),
  ([(.iload 6, []), (.bipush 8, []), (.if_icmp .ge 7, [4]), (.iload_n 2, []), (.goto 28, [7])], 0),
  ([(.iload 6, []), (.bipush 12, []), (.if_icmp .ge 7, [5]), (.iload_n 3, []), (.goto 17, [7])], 0),
  ([(.iload 6, []), (.bipush 16, []), (.if_icmp .ge 8, [6]), (.iload 4, []), (.goto 5, [7])], 0),
  ([(.iload 5, [])], 7),
  ([(.istore 7, []), (.aload_n 0, []), (.getfield 7, [9, 1, 3, 1613]), (.aload_n 0, []), (.getfield 71, [9, 2, 0, 1614]), (.iload 7, []), (.bipush 24, []), (.bipush 8, []), (.iload 6, []), (.iconst 4, []), (.irem, []), (.imul, []), (.isub, []), (.ishr, []), (.sipush 255, []), (.iand, []), (.iastore, []), (.aload_n 0, []), (.dup, []), (.getfield 71, [9, 2, 0, 1614]), (.iconst 1, []), (.iadd, []), (.putfield 71, [9, 2, 0, 1614]), (.iinc 6 1, []), (.goto (-94), [2])], 0),
  ([(.aload_n 0, []), (.getfield 71, [9, 2, 0, 1614]), (.ireturn, [])], 0)])
def md_Model_towns : gD := (yX10_towns, cX10_towns, 3, (some .int), 2, (0, 0), [0, 22, 39, 59, 77, 104, 127, 161, 171, 184, 202, 222, 224, 260], [
  ([(.aload_n 0, []), (.invokevirtual 177, [0, 213, 0, 9, 0, 0, 1748]), (.iload_n 1, []), (.iconst 0, []), (.aload_n 0, []), (.getfield 71, [9, 2, 0, 1614]), (.invokestatic 162, [1, 214, 3, 0, 0, 1752]), (.ifCond .ne 9, [1]), (.aload_n 0, []), (.iconst 2, []), (.invokevirtual 180, [0, 215, 1, 9, 0, 0, 1755]), (.ireturn, [])], 0),
  ([(.aload_n 0, []), (.iconst 0, []), (.putfield 71, [9, 2, 0, 1614]), (.aload_n 0, []), (.iconst 0, []), (.putfield 107, [9, 9, 0, 1621]), (.aload_n 0, []), (.iconst 0, []), (.putfield 103, [9, 13, 1, 1625]), (.iconst 0, []), (.istore_n 2, [])], 2),
  ([(.iload_n 2, []), (.sipush 358, []), (.if_icmp .ge 16, [3]), (.aload_n 0, []), (.getfield 23, [9, 16, 3, 1628]), (.iload_n 2, []), (.iconst 0, []), (.iastore, []), (.iinc 2 1, []), (.goto (-17), [2])], 0),
  ([(.aload_n 0, []), (.iload_n 1, []), (.putfield 74, [9, 3, 0, 1615]), (.aload_n 0, []), (.iconst 0, []), (.putfield 77, [9, 5, 0, 1617]), (.aload_n 0, []), (.invokevirtual 124, [0, 216, 0, 9, 0, 0, 1759]), (.aload_n 0, []), (.invokevirtual 183, [0, 220, 0, 9, 0, 0, 1773])], 4),
  ([(.aload_n 0, []), (.getfield 103, [9, 13, 1, 1625]), (.ifCond .ne 23, [5]), (.aload_n 0, []), (.getfield 93, [9, 6, 0, 1618]), (.bipush 59, []), (.if_icmp .ne 14, [5]), (.aload_n 0, []), (.invokevirtual 124, [0, 216, 0, 9, 0, 0, 1759]), (.aload_n 0, []), (.invokevirtual 183, [0, 220, 0, 9, 0, 0, 1773]), (.goto (-24), [4])], 0),
  ([(.aload_n 0, []), (.getfield 103, [9, 13, 1, 1625]), (.ifCond .ne 19, [6]), (.aload_n 0, []), (.getfield 93, [9, 6, 0, 1618]), (.ifCond .eq 12, [6]), (.aload_n 0, []), (.iconst 1, []), (.aload_n 0, []), (.getfield 84, [9, 4, 0, 1616]), (.invokevirtual 130, [0, 223, 2, 9, 0, 0, 1788])], 6),
  ([(.aload_n 0, []), (.getfield 103, [9, 13, 1, 1625]), (.ifCond .ne 40, [8]), (.aload_n 0, []), (.getfield 23, [9, 16, 3, 1628]), (.iconst 0, []), (.iaload, []), (.ifCond .eq 21, [7]), (.aload_n 0, []), (.getfield 23, [9, 16, 3, 1628]), (.iconst 4, []), (.iaload, []), (.ifCond .eq 12, [7]), (.aload_n 0, []), (.getfield 23, [9, 16, 3, 1628]), (.iconst 5, []), (.iaload, []), (.ifCond .ne 13, [8])], 7),
  ([(.aload_n 0, []), (.bipush 6, []), (.aload_n 0, []), (.getfield 84, [9, 4, 0, 1616]), (.invokevirtual 130, [0, 223, 2, 9, 0, 0, 1788])], 8),
  ([(.aload_n 0, []), (.getfield 103, [9, 13, 1, 1625]), (.ifCond .eq 9, [9]), (.aload_n 0, []), (.iconst 4, []), (.invokevirtual 180, [0, 215, 1, 9, 0, 0, 1755]), (.ireturn, [])], 0),
  ([(.aload_n 0, []), (.getfield 23, [9, 16, 3, 1628]), (.iconst 0, []), (.aload_n 0, []), (.getfield 20, [9, 15, 3, 1627]), (.iconst 0, []), (.sipush 358, []), (.invokestatic 186, [1, 247, 5, 0, 0, 1905]), (.iconst 0, []), (.istore_n 2, [])], 10),
  ([(.iload_n 2, []), (.sipush 262, []), (.if_icmp .ge 16, [11]), (.aload_n 0, []), (.getfield 26, [9, 17, 3, 1629]), (.iload_n 2, []), (.iconst 0, []), (.iastore, []), (.iinc 2 1, []), (.goto (-17), [10])], 0),
  ([(.iconst 0, []), (.istore_n 2, [])], 12),
  ([(.iload_n 2, []), (.aload_n 0, []), (.getfield 20, [9, 15, 3, 1627]), (.iconst 5, []), (.iaload, []), (.if_icmp .ge 29, [13]), (.aload_n 0, []), (.getfield 26, [9, 17, 3, 1629]), (.iconst 2, []), (.iconst 4, []), (.iload_n 2, []), (.imul, []), (.iadd, []), (.iconst 2, []), (.iadd, []), (.iconst 1, []), (.aload_n 0, []), (.iload_n 2, []), (.iconst 1, []), (.invokevirtual 190, [0, 248, 2, 9, 0, 0, 1908]), (.ishl, []), (.iastore, []), (.iinc 2 1, []), (.goto (-33), [12])], 0),
  ([(.aload_n 0, []), (.iconst 1, []), (.putfield 193, [9, 14, 1, 1626]), (.aload_n 0, []), (.iconst 0, []), (.putfield 196, [9, 21, 0, 1633]), (.aload_n 0, []), (.iconst 0, []), (.putfield 199, [9, 22, 0, 1634]), (.aload_n 0, []), (.getfield 20, [9, 15, 3, 1627]), (.iconst 5, []), (.iaload, []), (.ireturn, [])], 0)])
def md_Model_good : gD := (yX10_good, cX10_good, 1, none, 1, (0, 0), [0], [
  ([(.aload_n 0, []), (.iconst 0, []), (.putfield 65, [9, 0, 0, 1612]), (.aload_n 0, []), (.iconst 0, []), (.putfield 68, [9, 11, 0, 1623]), (.return_, [])], 0)])
def md_Model_within : gD := (yX10_within, cX10_within, 3, (some .boolean), 3, (0, 0), [0, 14, 15], [
  ([(.iload_n 0, []), (.iload_n 1, []), (.if_icmp .lt 12, [1]), (.iload_n 0, []), (.iload_n 2, []), (.if_icmp .gt 7, [1]), (.iconst 1, []), (.goto 4, [2])], 0),
  ([(.iconst 0, [])], 2),
  ([(.ireturn, [])], 0)])
def md_Model_no : gD := (yX10_no, cX10_no, 2, (some .int), 2, (0, 0), [0], [
  ([(.aload_n 0, []), (.iload_n 1, []), (.putfield 68, [9, 11, 0, 1623]), (.iconst (-1), []), (.ireturn, [])], 0)])
def md_Model_next : gD := (yX10_next, cX10_next, 4, none, 1, (0, 0), [0, 5, 21, 60, 67, 101, 117, 136, 137, 143, 152, 188, 197, 212, 213, 219, 237, 238, 241], [
  ([(.aload_n 0, []), (.getfield 77, [9, 5, 0, 1617]), (.istore_n 1, [])], 1),
  ([(.aload_n 0, []), (.iload_n 1, []), (.invokevirtual 80, [0, 217, 1, 9, 0, 0, 1763]), (.bipush 32, []), (.if_icmp .ne 9, [2]), (.iinc 1 1, []), (.goto (-13), [1])], 0),
  ([(.aload_n 0, []), (.iload_n 1, []), (.putfield 84, [9, 4, 0, 1616]), (.aload_n 0, []), (.iload_n 1, []), (.invokevirtual 80, [0, 217, 1, 9, 0, 0, 1763]), (.istore_n 2, []), (.aload_n 0, []), (.iconst 0, []), (.putfield 87, [9, 8, 0, 1620]), (.aload_n 0, []), (.iconst 0, []), (.putfield 90, [9, 7, 0, 1619]), (.iload_n 2, []), (.iconst (-1), []), (.if_icmp .ne 16, [3]), (.aload_n 0, []), (.iconst 0, []), (.putfield 93, [9, 6, 0, 1618]), (.aload_n 0, []), (.iload_n 1, []), (.putfield 77, [9, 5, 0, 1617]), (.goto 184, [18])], 0),
  ([(.iload_n 2, []), (.invokestatic 96, [1, 218, 1, 0, 0, 1767]), (.ifCond .eq 79, [9])], 4),
  ([(.aload_n 0, []), (.iload_n 1, []), (.invokevirtual 80, [0, 217, 1, 9, 0, 0, 1763]), (.invokestatic 96, [1, 218, 1, 0, 0, 1767]), (.ifCond .eq 42, [6]), (.aload_n 0, []), (.getfield 87, [9, 8, 0, 1620]), (.bipush 8, []), (.if_icmp .ge 17, [5]), (.aload_n 0, []), (.getfield 17, [9, 12, 3, 1624]), (.aload_n 0, []), (.getfield 87, [9, 8, 0, 1620]), (.aload_n 0, []), (.iload_n 1, []), (.invokevirtual 80, [0, 217, 1, 9, 0, 0, 1763]), (.iastore, [])], 5),
  ([(.aload_n 0, []), (.dup, []), (.getfield 87, [9, 8, 0, 1620]), (.iconst 1, []), (.iadd, []), (.putfield 87, [9, 8, 0, 1620]), (.iinc 1 1, []), (.goto (-47), [4])], 0),
  ([(.aload_n 0, []), (.iload_n 1, []), (.putfield 77, [9, 5, 0, 1617]), (.aload_n 0, []), (.aload_n 0, []), (.getfield 87, [9, 8, 0, 1620]), (.bipush 8, []), (.if_icmp .le 7, [7]), (.iconst 1, []), (.goto 4, [8])], 0),
  ([(.iconst 2, [])], 8),
  ([(.putfield 93, [9, 6, 0, 1618]), (.goto 101, [18])], 0),
  ([(.iload_n 2, []), (.invokestatic 100, [1, 219, 1, 0, 0, 1770]), (.ifCond .eq 72, [15]), (.iconst 0, []), (.istore_n 3, [])], 10),
  ([(.aload_n 0, []), (.iload_n 1, []), (.invokevirtual 80, [0, 217, 1, 9, 0, 0, 1763]), (.invokestatic 100, [1, 219, 1, 0, 0, 1770]), (.ifCond .eq 37, [12]), (.iload_n 3, []), (.iconst 3, []), (.if_icmp .ge 23, [11]), (.aload_n 0, []), (.bipush 10, []), (.aload_n 0, []), (.getfield 90, [9, 7, 0, 1619]), (.imul, []), (.aload_n 0, []), (.iload_n 1, []), (.invokevirtual 80, [0, 217, 1, 9, 0, 0, 1763]), (.iadd, []), (.bipush 48, []), (.isub, []), (.putfield 90, [9, 7, 0, 1619])], 11),
  ([(.iinc 3 1, []), (.iinc 1 1, []), (.goto (-42), [10])], 0),
  ([(.aload_n 0, []), (.iload_n 1, []), (.putfield 77, [9, 5, 0, 1617]), (.aload_n 0, []), (.iload_n 3, []), (.iconst 3, []), (.if_icmp .le 7, [13]), (.iconst 1, []), (.goto 4, [14])], 0),
  ([(.iconst 3, [])], 14),
  ([(.putfield 93, [9, 6, 0, 1618]), (.goto 25, [18])], 0),
  ([(.aload_n 0, []), (.iload_n 1, []), (.iconst 1, []), (.iadd, []), (.putfield 77, [9, 5, 0, 1617]), (.aload_n 0, []), (.iload_n 2, []), (.bipush 59, []), (.if_icmp .ne 7, [16]), (.iload_n 2, []), (.goto 4, [17])], 0),
  ([(.iconst 1, [])], 17),
  ([(.putfield 93, [9, 6, 0, 1618])], 18),
  ([(.return_, [])], 0)])
def md_Model_look : gD := (yX10_look, cX10_look, 2, (some .int), 2, (0, 0), [0, 17, 18], [
  ([(.iload_n 1, []), (.aload_n 0, []), (.getfield 74, [9, 3, 0, 1615]), (.if_icmp .ge 12, [1]), (.aload_n 0, []), (.getfield 7, [9, 1, 3, 1613]), (.iload_n 1, []), (.iaload, []), (.goto 4, [2])], 0),
  ([(.iconst (-1), [])], 2),
  ([(.ireturn, [])], 0)])
def md_Model_isSmall : gD := (yX10_isSmall, cX10_isSmall, 1, (some .boolean), 1, (0, 0), [0, 16, 17], [
  ([(.iload_n 0, []), (.bipush 97, []), (.if_icmp .lt 13, [1]), (.iload_n 0, []), (.bipush 122, []), (.if_icmp .gt 7, [1]), (.iconst 1, []), (.goto 4, [2])], 0),
  ([(.iconst 0, [])], 2),
  ([(.ireturn, [])], 0)])
def md_Model_isDigit : gD := (yX10_isDigit, cX10_isDigit, 1, (some .boolean), 1, (0, 0), [0, 16, 17], [
  ([(.iload_n 0, []), (.bipush 48, []), (.if_icmp .lt 13, [1]), (.iload_n 0, []), (.bipush 57, []), (.if_icmp .gt 7, [1]), (.iconst 1, []), (.goto 4, [2])], 0),
  ([(.iconst 0, [])], 2),
  ([(.ireturn, [])], 0)])
def md_Model_readLine : gD := (yX10_readLine, cX10_readLine, 1, none, 1, (0, 0), [0, 16, 34, 35, 48, 66, 67, 80, 99, 100, 113, 132, 133, 146, 163, 179, 198, 199, 212, 231, 232, 245, 254], [
  ([(.aload_n 0, []), (.ldc 134, [1, 0, 24]), (.invokevirtual 120, [0, 221, 1, 9, 0, 0, 1778]), (.ifCond .eq 10, [1]), (.aload_n 0, []), (.invokevirtual 202, [0, 222, 0, 9, 0, 0, 1784]), (.goto 241, [22])], 0),
  ([(.aload_n 0, []), (.ldc 136, [1, 1, 29]), (.aload_n 0, []), (.getfield 23, [9, 16, 3, 1628]), (.iconst 4, []), (.iaload, []), (.bipush 6, []), (.if_icmp .ge 7, [2]), (.iconst 1, []), (.goto 4, [3])], 0),
  ([(.iconst 0, [])], 3),
  ([(.invokevirtual 205, [0, 229, 2, 9, 0, 0, 1817]), (.ifCond .eq 10, [4]), (.aload_n 0, []), (.invokevirtual 209, [0, 230, 0, 9, 0, 0, 1821]), (.goto 209, [22])], 0),
  ([(.aload_n 0, []), (.ldc 138, [1, 2, 30]), (.aload_n 0, []), (.getfield 23, [9, 16, 3, 1628]), (.iconst 5, []), (.iaload, []), (.bipush 10, []), (.if_icmp .ge 7, [5]), (.iconst 1, []), (.goto 4, [6])], 0),
  ([(.iconst 0, [])], 6),
  ([(.invokevirtual 205, [0, 229, 2, 9, 0, 0, 1817]), (.ifCond .eq 10, [7]), (.aload_n 0, []), (.invokevirtual 212, [0, 235, 0, 9, 0, 0, 1851]), (.goto 177, [22])], 0),
  ([(.aload_n 0, []), (.ldc 140, [1, 3, 31]), (.aload_n 0, []), (.getfield 23, [9, 16, 3, 1628]), (.bipush 8, []), (.iaload, []), (.bipush 6, []), (.if_icmp .ge 7, [8]), (.iconst 1, []), (.goto 4, [9])], 0),
  ([(.iconst 0, [])], 9),
  ([(.invokevirtual 205, [0, 229, 2, 9, 0, 0, 1817]), (.ifCond .eq 10, [10]), (.aload_n 0, []), (.invokevirtual 215, [0, 237, 0, 9, 0, 0, 1866]), (.goto 144, [22])], 0),
  ([(.aload_n 0, []), (.ldc 142, [1, 4, 32]), (.aload_n 0, []), (.getfield 23, [9, 16, 3, 1628]), (.bipush 9, []), (.iaload, []), (.bipush 12, []), (.if_icmp .ge 7, [11]), (.iconst 1, []), (.goto 4, [12])], 0),
  ([(.iconst 0, [])], 12),
  ([(.invokevirtual 205, [0, 229, 2, 9, 0, 0, 1817]), (.ifCond .eq 10, [13]), (.aload_n 0, []), (.invokevirtual 218, [0, 240, 0, 9, 0, 0, 1877]), (.goto 111, [22])], 0),
  ([(.aload_n 0, []), (.ldc 144, [1, 5, 33]), (.iconst 1, []), (.invokevirtual 205, [0, 229, 2, 9, 0, 0, 1817]), (.ifCond .eq 10, [14]), (.aload_n 0, []), (.invokevirtual 221, [0, 243, 0, 9, 0, 0, 1889]), (.goto 94, [22])], 0),
  ([(.aload_n 0, []), (.ldc 146, [1, 6, 34]), (.invokevirtual 120, [0, 221, 1, 9, 0, 0, 1778]), (.ifCond .eq 10, [15]), (.aload_n 0, []), (.invokevirtual 224, [0, 244, 0, 9, 0, 0, 1893]), (.goto 78, [22])], 0),
  ([(.aload_n 0, []), (.ldc 148, [1, 7, 35]), (.aload_n 0, []), (.getfield 23, [9, 16, 3, 1628]), (.bipush 10, []), (.iaload, []), (.bipush 6, []), (.if_icmp .ge 7, [16]), (.iconst 1, []), (.goto 4, [17])], 0),
  ([(.iconst 0, [])], 17),
  ([(.invokevirtual 205, [0, 229, 2, 9, 0, 0, 1817]), (.ifCond .eq 10, [18]), (.aload_n 0, []), (.invokevirtual 227, [0, 245, 0, 9, 0, 0, 1897]), (.goto 45, [22])], 0),
  ([(.aload_n 0, []), (.ldc 150, [1, 8, 36]), (.aload_n 0, []), (.getfield 23, [9, 16, 3, 1628]), (.bipush 10, []), (.iaload, []), (.bipush 6, []), (.if_icmp .ge 7, [19]), (.iconst 1, []), (.goto 4, [20])], 0),
  ([(.iconst 0, [])], 20),
  ([(.invokevirtual 205, [0, 229, 2, 9, 0, 0, 1817]), (.ifCond .eq 10, [21]), (.aload_n 0, []), (.invokevirtual 230, [0, 246, 0, 9, 0, 0, 1901]), (.goto 12, [22])], 0),
  ([(.aload_n 0, []), (.iconst 1, []), (.aload_n 0, []), (.getfield 84, [9, 4, 0, 1616]), (.invokevirtual 130, [0, 223, 2, 9, 0, 0, 1788])], 22),
  ([(.return_, [])], 0)])
def md_Model_isWord : gD := (yX10_isWord, cX10_isWord, 4, (some .boolean), 2, (0, 0), [0, 26, 28, 32, 62, 63, 70], [
  ([(.aload_n 0, []), (.getfield 103, [9, 13, 1, 1625]), (.ifCond .ne 22, [1]), (.aload_n 0, []), (.getfield 93, [9, 6, 0, 1618]), (.iconst 2, []), (.if_icmp .ne 14, [1]), (.aload_n 0, []), (.getfield 87, [9, 8, 0, 1620]), (.aload_n 1, []), (.invokevirtual 110, [8, 1782]), (.if_icmp .eq 5, [2])], 1),
  ([(.iconst 0, []), (.ireturn, [])], 0),
  ([(.iconst 1, []), (.istore_n 2, []), (.iconst 0, []), (.istore_n 3, [])], 3),
  ([(.iload_n 3, []), (.aload_n 0, []), (.getfield 87, [9, 8, 0, 1620]), (.if_icmp .ge 33, [6]), (.iload_n 2, []), (.ifCond .eq 21, [4]), (.aload_n 0, []), (.getfield 17, [9, 12, 3, 1624]), (.iload_n 3, []), (.iaload, []), (.aload_n 1, []), (.iload_n 3, []), (.invokevirtual 116, [9, 1783]), (.if_icmp .ne 7, [4]), (.iconst 1, []), (.goto 4, [5])], 0),
  ([(.iconst 0, [])], 5),
  ([(.istore_n 2, []), (.iinc 3 1, []), (.goto (-35), [3])], 0),
  ([(.iload_n 2, []), (.ireturn, [])], 0)])
def md_Model_townsLine : gD := (yX10_townsLine, cX10_townsLine, 2, none, 1, (0, 0), [0, 18, 26, 98], [
  ([(.aload_n 0, []), (.getfield 23, [9, 16, 3, 1628]), (.iconst 0, []), (.iaload, []), (.ifCond .le 12, [1]), (.aload_n 0, []), (.iconst 3, []), (.aload_n 0, []), (.getfield 84, [9, 4, 0, 1616]), (.invokevirtual 130, [0, 223, 2, 9, 0, 0, 1788])], 1),
  ([(.aload_n 0, []), (.getfield 103, [9, 13, 1, 1625]), (.ifCond .eq 4, [2]), (.return_, [])], 0),
  ([(.aload_n 0, []), (.invokevirtual 124, [0, 216, 0, 9, 0, 0, 1759]), (.aload_n 0, []), (.ldc 233, [1, 9, 25]), (.iconst 1, []), (.bipush 6, []), (.invokevirtual 235, [0, 224, 3, 9, 0, 0, 1793]), (.istore_n 1, []), (.aload_n 0, []), (.getfield 23, [9, 16, 3, 1628]), (.iconst 1, []), (.aload_n 0, []), (.ldc 239, [1, 10, 26]), (.iconst 0, []), (.bipush 30, []), (.invokevirtual 235, [0, 224, 3, 9, 0, 0, 1793]), (.iastore, []), (.aload_n 0, []), (.getfield 23, [9, 16, 3, 1628]), (.iconst 2, []), (.aload_n 0, []), (.ldc 241, [1, 11, 27]), (.iconst 1, []), (.iconst 3, []), (.invokevirtual 235, [0, 224, 3, 9, 0, 0, 1793]), (.iastore, []), (.aload_n 0, []), (.getfield 23, [9, 16, 3, 1628]), (.iconst 3, []), (.aload_n 0, []), (.ldc 243, [1, 12, 28]), (.iconst 0, []), (.bipush 9, []), (.invokevirtual 235, [0, 224, 3, 9, 0, 0, 1793]), (.iastore, []), (.aload_n 0, []), (.getfield 103, [9, 13, 1, 1625]), (.ifCond .ne 10, [3]), (.aload_n 0, []), (.getfield 23, [9, 16, 3, 1628]), (.iconst 0, []), (.iload_n 1, []), (.iastore, [])], 3),
  ([(.return_, [])], 0)])
def md_Model_fail : gD := (yX10_fail, cX10_fail, 3, none, 3, (0, 0), [0, 8], [
  ([(.aload_n 0, []), (.getfield 103, [9, 13, 1, 1625]), (.ifCond .eq 4, [1]), (.return_, [])], 0),
  ([(.aload_n 0, []), (.iconst 1, []), (.putfield 103, [9, 13, 1, 1625]), (.aload_n 0, []), (.iload_n 1, []), (.putfield 107, [9, 9, 0, 1621]), (.aload_n 0, []), (.iload_n 2, []), (.putfield 13, [9, 10, 0, 1622]), (.return_, [])], 0)])
def md_Model_after : gD := (yX10_after, cX10_after, 4, (some .int), 4, (0, 0), [0], [
  ([(.aload_n 0, []), (.aload_n 1, []), (.invokevirtual 170, [0, 225, 1, 9, 0, 0, 1797]), (.aload_n 0, []), (.iload_n 2, []), (.iload_n 3, []), (.invokevirtual 174, [0, 227, 2, 9, 0, 0, 1805]), (.ireturn, [])], 0)])
def md_Model_must : gD := (yX10_must, cX10_must, 2, none, 2, (0, 0), [0, 24], [
  ([(.aload_n 0, []), (.getfield 103, [9, 13, 1, 1625]), (.ifCond .ne 20, [1]), (.aload_n 0, []), (.aload_n 1, []), (.invokevirtual 127, [0, 226, 1, 9, 0, 0, 1801]), (.ifCond .ne 12, [1]), (.aload_n 0, []), (.iconst 1, []), (.aload_n 0, []), (.getfield 84, [9, 4, 0, 1616]), (.invokevirtual 130, [0, 223, 2, 9, 0, 0, 1788])], 1),
  ([(.return_, [])], 0)])
def md_Model_takesWord : gD := (yX10_takesWord, cX10_takesWord, 2, (some .boolean), 2, (0, 0), [0, 10], [
  ([(.aload_n 0, []), (.aload_n 1, []), (.invokevirtual 120, [0, 221, 1, 9, 0, 0, 1778]), (.ifCond .ne 5, [1]), (.iconst 0, []), (.ireturn, [])], 0),
  ([(.aload_n 0, []), (.invokevirtual 124, [0, 216, 0, 9, 0, 0, 1759]), (.iconst 1, []), (.ireturn, [])], 0)])
def md_Model_number : gD := (yX10_number, cX10_number, 4, (some .int), 3, (0, 0), [0, 18], [
  ([(.aload_n 0, []), (.iload_n 1, []), (.iload_n 2, []), (.invokevirtual 166, [0, 228, 2, 9, 0, 0, 1809]), (.istore_n 3, []), (.aload_n 0, []), (.getfield 103, [9, 13, 1, 1625]), (.ifCond .ne 7, [1]), (.aload_n 0, []), (.invokevirtual 124, [0, 216, 0, 9, 0, 0, 1759])], 1),
  ([(.iload_n 3, []), (.ireturn, [])], 0)])
def md_Model_numberHere : gD := (yX10_numberHere, cX10_numberHere, 3, (some .int), 3, (0, 0), [0, 9, 29, 50, 61, 65], [
  ([(.aload_n 0, []), (.getfield 103, [9, 13, 1, 1625]), (.ifCond .eq 5, [1]), (.iload_n 1, []), (.ireturn, [])], 0),
  ([(.aload_n 0, []), (.getfield 93, [9, 6, 0, 1618]), (.iconst 3, []), (.if_icmp .eq 15, [2]), (.aload_n 0, []), (.iconst 1, []), (.aload_n 0, []), (.getfield 84, [9, 4, 0, 1616]), (.invokevirtual 130, [0, 223, 2, 9, 0, 0, 1788]), (.goto 24, [3])], 0),
  ([(.aload_n 0, []), (.getfield 90, [9, 7, 0, 1619]), (.iload_n 1, []), (.iload_n 2, []), (.invokestatic 162, [1, 214, 3, 0, 0, 1752]), (.ifCond .ne 12, [3]), (.aload_n 0, []), (.iconst 4, []), (.aload_n 0, []), (.getfield 84, [9, 4, 0, 1616]), (.invokevirtual 130, [0, 223, 2, 9, 0, 0, 1788])], 3),
  ([(.aload_n 0, []), (.getfield 103, [9, 13, 1, 1625]), (.ifCond .eq 7, [4]), (.iload_n 1, []), (.goto 7, [5])], 0),
  ([(.aload_n 0, []), (.getfield 90, [9, 7, 0, 1619])], 5),
  ([(.ireturn, [])], 0)])
def md_Model_begins : gD := (yX10_begins, cX10_begins, 3, (some .boolean), 3, (0, 0), [0, 10, 23, 42, 53], [
  ([(.aload_n 0, []), (.aload_n 1, []), (.invokevirtual 120, [0, 221, 1, 9, 0, 0, 1778]), (.ifCond .ne 5, [1]), (.iconst 0, []), (.ireturn, [])], 0),
  ([(.iload_n 2, []), (.ifCond .ne 12, [2]), (.aload_n 0, []), (.iconst 5, []), (.aload_n 0, []), (.getfield 84, [9, 4, 0, 1616]), (.invokevirtual 130, [0, 223, 2, 9, 0, 0, 1788])], 2),
  ([(.aload_n 0, []), (.getfield 23, [9, 16, 3, 1628]), (.iconst 0, []), (.iaload, []), (.ifCond .ne 13, [3]), (.aload_n 0, []), (.bipush 6, []), (.aload_n 0, []), (.getfield 84, [9, 4, 0, 1616]), (.invokevirtual 130, [0, 223, 2, 9, 0, 0, 1788])], 3),
  ([(.aload_n 0, []), (.getfield 103, [9, 13, 1, 1625]), (.ifCond .ne 7, [4]), (.aload_n 0, []), (.invokevirtual 124, [0, 216, 0, 9, 0, 0, 1759])], 4),
  ([(.iconst 1, []), (.ireturn, [])], 0)])
def md_Model_houseLine : gD := (yX10_houseLine, cX10_houseLine, 6, none, 1, (0, 0), [0, 8, 40, 41, 53, 96, 104, 143, 176], [
  ([(.aload_n 0, []), (.getfield 103, [9, 13, 1, 1625]), (.ifCond .eq 4, [1]), (.return_, [])], 0),
  ([(.aload_n 0, []), (.getfield 23, [9, 16, 3, 1628]), (.iconst 4, []), (.iaload, []), (.istore_n 1, []), (.bipush 12, []), (.iconst 3, []), (.iload_n 1, []), (.imul, []), (.iadd, []), (.istore_n 2, []), (.aload_n 0, []), (.iload_n 1, []), (.invokevirtual 245, [0, 231, 1, 9, 0, 0, 1825]), (.aload_n 0, []), (.ldc 249, [1, 13, 37]), (.invokevirtual 127, [0, 226, 1, 9, 0, 0, 1801]), (.ifCond .eq 7, [2]), (.iconst 0, []), (.goto 4, [3])], 0),
  ([(.iconst 1, [])], 3),
  ([(.istore_n 3, []), (.iload_n 3, []), (.iconst 1, []), (.if_icmp .ne 9, [4]), (.aload_n 0, []), (.ldc 251, [1, 14, 38]), (.invokevirtual 170, [0, 225, 1, 9, 0, 0, 1797])], 4),
  ([(.aload_n 0, []), (.ldc 253, [1, 15, 39]), (.invokevirtual 170, [0, 225, 1, 9, 0, 0, 1797]), (.aload_n 0, []), (.iconst 1, []), (.iconst 3, []), (.invokevirtual 166, [0, 228, 2, 9, 0, 0, 1809]), (.istore 4, []), (.aload_n 0, []), (.getfield 103, [9, 13, 1, 1625]), (.ifCond .ne 25, [5]), (.aload_n 0, []), (.iload_n 3, []), (.invokevirtual 254, [0, 234, 1, 9, 0, 0, 1847]), (.iload 4, []), (.iadd, []), (.bipush 6, []), (.if_icmp .le 12, [5]), (.aload_n 0, []), (.iconst 5, []), (.aload_n 0, []), (.getfield 84, [9, 4, 0, 1616]), (.invokevirtual 130, [0, 223, 2, 9, 0, 0, 1788])], 5),
  ([(.aload_n 0, []), (.getfield 103, [9, 13, 1, 1625]), (.ifCond .eq 4, [6]), (.return_, [])], 0),
  ([(.aload_n 0, []), (.invokevirtual 124, [0, 216, 0, 9, 0, 0, 1759]), (.aload_n 0, []), (.getfield 23, [9, 16, 3, 1628]), (.iload_n 2, []), (.iload_n 3, []), (.iastore, []), (.aload_n 0, []), (.getfield 23, [9, 16, 3, 1628]), (.iload_n 2, []), (.iconst 1, []), (.iadd, []), (.iload 4, []), (.iastore, []), (.aload_n 0, []), (.getfield 23, [9, 16, 3, 1628]), (.iload_n 2, []), (.iconst 2, []), (.iadd, []), (.aload_n 0, []), (.getfield 23, [9, 16, 3, 1628]), (.bipush 11, []), (.iaload, []), (.iastore, []), (.iconst 0, []), (.istore 5, [])], 7),
  ([(.iload 5, []), (.iload 4, []), (.if_icmp .ge 29, [8]), (.aload_n 0, []), (.getfield 23, [9, 16, 3, 1628]), (.sipush 202, []), (.aload_n 0, []), (.getfield 23, [9, 16, 3, 1628]), (.bipush 11, []), (.iaload, []), (.iadd, []), (.iload 5, []), (.iadd, []), (.iload_n 1, []), (.iastore, []), (.iinc 5 1, []), (.goto (-30), [7])], 0),
  ([(.aload_n 0, []), (.getfield 23, [9, 16, 3, 1628]), (.bipush 11, []), (.dup2, []), (.iaload, []), (.iload 4, []), (.iadd, []), (.iastore, []), (.aload_n 0, []), (.getfield 23, [9, 16, 3, 1628]), (.iconst 4, []), (.dup2, []), (.iaload, []), (.iconst 1, []), (.iadd, []), (.iastore, []), (.return_, [])], 0)])
def md_Model_newName : gD := (yX10_newName, cX10_newName, 3, none, 2, (0, 0), [0, 8, 35, 43, 45, 80], [
  ([(.aload_n 0, []), (.getfield 103, [9, 13, 1, 1625]), (.ifCond .eq 4, [1]), (.return_, [])], 0),
  ([(.aload_n 0, []), (.invokevirtual 152, [0, 232, 0, 9, 0, 0, 1829]), (.aload_n 0, []), (.getfield 103, [9, 13, 1, 1625]), (.ifCond .ne 19, [2]), (.aload_n 0, []), (.invokevirtual 155, [0, 233, 0, 9, 0, 0, 1840]), (.ifCond .lt 12, [2]), (.aload_n 0, []), (.iconst 3, []), (.aload_n 0, []), (.getfield 84, [9, 4, 0, 1616]), (.invokevirtual 130, [0, 223, 2, 9, 0, 0, 1788])], 2),
  ([(.aload_n 0, []), (.getfield 103, [9, 13, 1, 1625]), (.ifCond .eq 4, [3]), (.return_, [])], 0),
  ([(.iconst 0, []), (.istore_n 2, [])], 4),
  ([(.iload_n 2, []), (.aload_n 0, []), (.getfield 87, [9, 8, 0, 1620]), (.if_icmp .ge 30, [5]), (.aload_n 0, []), (.getfield 23, [9, 16, 3, 1628]), (.sipush 230, []), (.bipush 8, []), (.iload_n 1, []), (.imul, []), (.iadd, []), (.iload_n 2, []), (.iadd, []), (.aload_n 0, []), (.getfield 17, [9, 12, 3, 1624]), (.iload_n 2, []), (.iaload, []), (.iastore, []), (.iinc 2 1, []), (.goto (-32), [4])], 0),
  ([(.aload_n 0, []), (.getfield 23, [9, 16, 3, 1628]), (.sipush 214, []), (.iload_n 1, []), (.iadd, []), (.aload_n 0, []), (.getfield 87, [9, 8, 0, 1620]), (.iastore, []), (.aload_n 0, []), (.invokevirtual 124, [0, 216, 0, 9, 0, 0, 1759]), (.return_, [])], 0)])
def md_Model_mustName : gD := (yX10_mustName, cX10_mustName, 2, none, 1, (0, 0), [0, 81, 85, 86, 99, 108], [
  ([(.aload_n 0, []), (.ldc 134, [1, 0, 24]), (.invokevirtual 120, [0, 221, 1, 9, 0, 0, 1778]), (.ifCond .ne 75, [1]), (.aload_n 0, []), (.ldc 136, [1, 1, 29]), (.invokevirtual 120, [0, 221, 1, 9, 0, 0, 1778]), (.ifCond .ne 66, [1]), (.aload_n 0, []), (.ldc 138, [1, 2, 30]), (.invokevirtual 120, [0, 221, 1, 9, 0, 0, 1778]), (.ifCond .ne 57, [1]), (.aload_n 0, []), (.ldc 140, [1, 3, 31]), (.invokevirtual 120, [0, 221, 1, 9, 0, 0, 1778]), (.ifCond .ne 48, [1]), (.aload_n 0, []), (.ldc 142, [1, 4, 32]), (.invokevirtual 120, [0, 221, 1, 9, 0, 0, 1778]), (.ifCond .ne 39, [1]), (.aload_n 0, []), (.ldc 144, [1, 5, 33]), (.invokevirtual 120, [0, 221, 1, 9, 0, 0, 1778]), (.ifCond .ne 30, [1]), (.aload_n 0, []), (.ldc 146, [1, 6, 34]), (.invokevirtual 120, [0, 221, 1, 9, 0, 0, 1778]), (.ifCond .ne 21, [1]), (.aload_n 0, []), (.ldc 148, [1, 7, 35]), (.invokevirtual 120, [0, 221, 1, 9, 0, 0, 1778]), (.ifCond .ne 12, [1]), (.aload_n 0, []), (.ldc 150, [1, 8, 36]), (.invokevirtual 120, [0, 221, 1, 9, 0, 0, 1778]), (.ifCond .eq 7, [2])], 1),
  ([(.iconst 1, []), (.goto 4, [3])], 0),
  ([(.iconst 0, [])], 3),
  ([(.istore_n 1, []), (.aload_n 0, []), (.getfield 93, [9, 6, 0, 1618]), (.iconst 2, []), (.if_icmp .ne 7, [4]), (.iload_n 1, []), (.ifCond .eq 12, [5])], 4),
  ([(.aload_n 0, []), (.iconst 1, []), (.aload_n 0, []), (.getfield 84, [9, 4, 0, 1616]), (.invokevirtual 130, [0, 223, 2, 9, 0, 0, 1788])], 5),
  ([(.return_, [])], 0)])
def md_Model_find : gD := (yX10_find, cX10_find, 4, (some .int), 1, (0, 0), [0, 2, 42, 43, 46, 86, 87, 94, 100, 106], [
  ([(.iconst 0, []), (.istore_n 1, [])], 1),
  ([(.iload_n 1, []), (.bipush 16, []), (.if_icmp .ge 101, [9]), (.aload_n 0, []), (.getfield 23, [9, 16, 3, 1628]), (.sipush 214, []), (.iload_n 1, []), (.iadd, []), (.iaload, []), (.ifCond .le 24, [2]), (.aload_n 0, []), (.getfield 23, [9, 16, 3, 1628]), (.sipush 214, []), (.iload_n 1, []), (.iadd, []), (.iaload, []), (.aload_n 0, []), (.getfield 87, [9, 8, 0, 1620]), (.if_icmp .ne 7, [2]), (.iconst 1, []), (.goto 4, [3])], 0),
  ([(.iconst 0, [])], 3),
  ([(.istore_n 2, []), (.iconst 0, []), (.istore_n 3, [])], 4),
  ([(.iload_n 3, []), (.aload_n 0, []), (.getfield 87, [9, 8, 0, 1620]), (.if_icmp .ge 43, [7]), (.iload_n 2, []), (.ifCond .eq 39, [7]), (.aload_n 0, []), (.getfield 23, [9, 16, 3, 1628]), (.sipush 230, []), (.bipush 8, []), (.iload_n 1, []), (.imul, []), (.iadd, []), (.iload_n 3, []), (.iadd, []), (.iaload, []), (.aload_n 0, []), (.getfield 17, [9, 12, 3, 1624]), (.iload_n 3, []), (.iaload, []), (.if_icmp .ne 7, [5]), (.iconst 1, []), (.goto 4, [6])], 0),
  ([(.iconst 0, [])], 6),
  ([(.istore_n 2, []), (.iinc 3 1, []), (.goto (-45), [4])], 0),
  ([(.iload_n 2, []), (.ifCond .eq 5, [8]), (.iload_n 1, []), (.ireturn, [])], 0),
  ([(.iinc 1 1, []), (.goto (-101), [1])], 0),
  ([(.iconst (-1), []), (.ireturn, [])], 0)])
def md_Model_bedsOf : gD := (yX10_bedsOf, cX10_bedsOf, 4, (some .int), 2, (0, 0), [0, 4, 46, 47, 55], [
  ([(.iconst 0, []), (.istore_n 2, []), (.iconst 0, []), (.istore_n 3, [])], 1),
  ([(.iload_n 3, []), (.aload_n 0, []), (.getfield 23, [9, 16, 3, 1628]), (.iconst 4, []), (.iaload, []), (.if_icmp .ge 44, [4]), (.iload_n 2, []), (.aload_n 0, []), (.getfield 23, [9, 16, 3, 1628]), (.bipush 12, []), (.iconst 3, []), (.iload_n 3, []), (.imul, []), (.iadd, []), (.iaload, []), (.iload_n 1, []), (.if_icmp .ne 19, [2]), (.aload_n 0, []), (.getfield 23, [9, 16, 3, 1628]), (.bipush 12, []), (.iconst 3, []), (.iload_n 3, []), (.imul, []), (.iadd, []), (.iconst 1, []), (.iadd, []), (.iaload, []), (.goto 4, [3])], 0),
  ([(.iconst 0, [])], 3),
  ([(.iadd, []), (.istore_n 2, []), (.iinc 3 1, []), (.goto (-48), [1])], 0),
  ([(.iload_n 2, []), (.ireturn, [])], 0)])
def md_Model_personLine : gD := (yX10_personLine, cX10_personLine, 8, none, 1, (0, 0), [0, 8, 44, 58, 72, 86, 87, 101, 109, 135, 155, 186, 187, 196, 211, 219, 305], [
  ([(.aload_n 0, []), (.getfield 103, [9, 13, 1, 1625]), (.ifCond .eq 4, [1]), (.return_, [])], 0),
  ([(.aload_n 0, []), (.getfield 23, [9, 16, 3, 1628]), (.iconst 5, []), (.iaload, []), (.istore_n 1, []), (.bipush 30, []), (.iconst 5, []), (.iload_n 1, []), (.imul, []), (.iadd, []), (.istore_n 2, []), (.aload_n 0, []), (.bipush 6, []), (.iload_n 1, []), (.iadd, []), (.invokevirtual 245, [0, 231, 1, 9, 0, 0, 1825]), (.aload_n 0, []), (.ldc_w 257, [1, 16, 40]), (.invokevirtual 120, [0, 221, 1, 9, 0, 0, 1778]), (.ifCond .eq 7, [2]), (.iconst 0, []), (.goto 46, [6])], 0),
  ([(.aload_n 0, []), (.ldc_w 259, [1, 17, 41]), (.invokevirtual 120, [0, 221, 1, 9, 0, 0, 1778]), (.ifCond .eq 7, [3]), (.iconst 1, []), (.goto 32, [6])], 0),
  ([(.aload_n 0, []), (.ldc_w 261, [1, 18, 42]), (.invokevirtual 120, [0, 221, 1, 9, 0, 0, 1778]), (.ifCond .eq 7, [4]), (.iconst 2, []), (.goto 18, [6])], 0),
  ([(.aload_n 0, []), (.ldc_w 263, [1, 19, 43]), (.invokevirtual 120, [0, 221, 1, 9, 0, 0, 1778]), (.ifCond .eq 7, [5]), (.iconst 3, []), (.goto 4, [6])], 0),
  ([(.iconst (-1), [])], 6),
  ([(.istore_n 3, []), (.iload_n 3, []), (.ifCond .ge 12, [7]), (.aload_n 0, []), (.iconst 1, []), (.aload_n 0, []), (.getfield 84, [9, 4, 0, 1616]), (.invokevirtual 130, [0, 223, 2, 9, 0, 0, 1788])], 7),
  ([(.aload_n 0, []), (.getfield 103, [9, 13, 1, 1625]), (.ifCond .eq 4, [8]), (.return_, [])], 0),
  ([(.aload_n 0, []), (.invokevirtual 124, [0, 216, 0, 9, 0, 0, 1759]), (.aload_n 0, []), (.ldc_w 265, [1, 20, 44]), (.invokevirtual 170, [0, 225, 1, 9, 0, 0, 1797]), (.aload_n 0, []), (.iconst 1, []), (.invokevirtual 158, [0, 236, 1, 9, 0, 0, 1860]), (.istore 4, []), (.aload_n 0, []), (.getfield 103, [9, 13, 1, 1625]), (.ifCond .eq 4, [9]), (.return_, [])], 0),
  ([(.aload_n 0, []), (.getfield 23, [9, 16, 3, 1628]), (.bipush 12, []), (.iconst 3, []), (.iload 4, []), (.imul, []), (.iadd, []), (.iaload, []), (.istore 5, []), (.iconst 0, []), (.istore 6, []), (.iconst 0, []), (.istore 7, [])], 10),
  ([(.iload 7, []), (.iload_n 1, []), (.if_icmp .ge 38, [13]), (.iload 6, []), (.aload_n 0, []), (.getfield 23, [9, 16, 3, 1628]), (.bipush 30, []), (.iconst 5, []), (.iload 7, []), (.imul, []), (.iadd, []), (.iconst 4, []), (.iadd, []), (.iaload, []), (.iload 5, []), (.if_icmp .ne 7, [11]), (.iconst 1, []), (.goto 4, [12])], 0),
  ([(.iconst 0, [])], 12),
  ([(.iadd, []), (.istore 6, []), (.iinc 7 1, []), (.goto (-38), [10])], 0),
  ([(.iload 6, []), (.iconst 5, []), (.if_icmp .ne 12, [14]), (.aload_n 0, []), (.iconst 5, []), (.aload_n 0, []), (.getfield 84, [9, 4, 0, 1616]), (.invokevirtual 130, [0, 223, 2, 9, 0, 0, 1788])], 14),
  ([(.aload_n 0, []), (.getfield 103, [9, 13, 1, 1625]), (.ifCond .eq 4, [15]), (.return_, [])], 0),
  ([(.aload_n 0, []), (.invokevirtual 124, [0, 216, 0, 9, 0, 0, 1759]), (.aload_n 0, []), (.getfield 23, [9, 16, 3, 1628]), (.iload_n 2, []), (.iconst 0, []), (.iadd, []), (.iload_n 3, []), (.iastore, []), (.aload_n 0, []), (.getfield 23, [9, 16, 3, 1628]), (.iload_n 2, []), (.iconst 1, []), (.iadd, []), (.iload 4, []), (.iastore, []), (.aload_n 0, []), (.getfield 23, [9, 16, 3, 1628]), (.iload_n 2, []), (.iconst 4, []), (.iadd, []), (.iload 5, []), (.iastore, []), (.aload_n 0, []), (.getfield 23, [9, 16, 3, 1628]), (.iload_n 2, []), (.iconst 2, []), (.iadd, []), (.aload_n 0, []), (.ldc_w 267, [1, 21, 45]), (.iconst 1, []), (.bipush 9, []), (.invokevirtual 235, [0, 224, 3, 9, 0, 0, 1793]), (.iastore, []), (.aload_n 0, []), (.getfield 23, [9, 16, 3, 1628]), (.iload_n 2, []), (.iconst 3, []), (.iadd, []), (.aload_n 0, []), (.ldc_w 269, [1, 22, 46]), (.iconst 0, []), (.bipush 9, []), (.invokevirtual 235, [0, 224, 3, 9, 0, 0, 1793]), (.iastore, []), (.aload_n 0, []), (.getfield 103, [9, 13, 1, 1625]), (.ifCond .ne 13, [16]), (.aload_n 0, []), (.getfield 23, [9, 16, 3, 1628]), (.iconst 5, []), (.dup2, []), (.iaload, []), (.iconst 1, []), (.iadd, []), (.iastore, [])], 16),
  ([(.return_, [])], 0)])
def md_Model_named : gD := (yX10_named, cX10_named, 3, (some .int), 2, (0, 0), [0, 9, 22, 42, 43, 46, 55, 66, 74, 78], [
  ([(.aload_n 0, []), (.getfield 103, [9, 13, 1, 1625]), (.ifCond .eq 5, [1]), (.iconst 0, []), (.ireturn, [])], 0),
  ([(.aload_n 0, []), (.invokevirtual 152, [0, 232, 0, 9, 0, 0, 1829]), (.aload_n 0, []), (.getfield 103, [9, 13, 1, 1625]), (.ifCond .eq 5, [2]), (.iconst 0, []), (.ireturn, [])], 0),
  ([(.aload_n 0, []), (.invokevirtual 155, [0, 233, 0, 9, 0, 0, 1840]), (.istore_n 2, []), (.iload_n 2, []), (.ifCond .lt 18, [5]), (.iload_n 1, []), (.iload_n 2, []), (.bipush 6, []), (.if_icmp .ge 7, [3]), (.iconst 1, []), (.goto 4, [4])], 0),
  ([(.iconst 0, [])], 4),
  ([(.if_icmp .eq 12, [6])], 5),
  ([(.aload_n 0, []), (.iconst 2, []), (.aload_n 0, []), (.getfield 84, [9, 4, 0, 1616]), (.invokevirtual 130, [0, 223, 2, 9, 0, 0, 1788])], 6),
  ([(.aload_n 0, []), (.getfield 103, [9, 13, 1, 1625]), (.ifCond .eq 7, [7]), (.iconst 0, []), (.goto 15, [9])], 0),
  ([(.iload_n 1, []), (.ifCond .eq 7, [8]), (.iload_n 2, []), (.goto 7, [9])], 0),
  ([(.iload_n 2, []), (.bipush 6, []), (.isub, [])], 9),
  ([(.ireturn, [])], 0)])
def md_Model_foesLine : gD := (yX10_foesLine, cX10_foesLine, 3, none, 1, (0, 0), [0, 8, 48, 57, 65], [
  ([(.aload_n 0, []), (.getfield 103, [9, 13, 1, 1625]), (.ifCond .eq 4, [1]), (.return_, [])], 0),
  ([(.aload_n 0, []), (.iconst 0, []), (.invokevirtual 271, [0, 238, 1, 9, 0, 0, 1870]), (.istore_n 1, []), (.aload_n 0, []), (.iconst 0, []), (.invokevirtual 158, [0, 236, 1, 9, 0, 0, 1860]), (.istore_n 2, []), (.aload_n 0, []), (.getfield 103, [9, 13, 1, 1625]), (.ifCond .ne 33, [3]), (.iload_n 1, []), (.iload_n 2, []), (.if_icmp .eq 19, [2]), (.aload_n 0, []), (.getfield 23, [9, 16, 3, 1628]), (.bipush 80, []), (.iload_n 1, []), (.iadd, []), (.iaload, []), (.iload_n 2, []), (.invokestatic 274, [1, 239, 2, 0, 0, 1874]), (.ifCond .eq 12, [3])], 2),
  ([(.aload_n 0, []), (.iconst 3, []), (.aload_n 0, []), (.getfield 84, [9, 4, 0, 1616]), (.invokevirtual 130, [0, 223, 2, 9, 0, 0, 1788])], 3),
  ([(.aload_n 0, []), (.getfield 103, [9, 13, 1, 1625]), (.ifCond .eq 4, [4]), (.return_, [])], 0),
  ([(.aload_n 0, []), (.invokevirtual 124, [0, 216, 0, 9, 0, 0, 1759]), (.aload_n 0, []), (.getfield 23, [9, 16, 3, 1628]), (.bipush 80, []), (.iload_n 1, []), (.iadd, []), (.dup2, []), (.iaload, []), (.iconst 1, []), (.iload_n 2, []), (.ishl, []), (.ior, []), (.iastore, []), (.aload_n 0, []), (.getfield 23, [9, 16, 3, 1628]), (.bipush 80, []), (.iload_n 2, []), (.iadd, []), (.dup2, []), (.iaload, []), (.iconst 1, []), (.iload_n 1, []), (.ishl, []), (.ior, []), (.iastore, []), (.aload_n 0, []), (.getfield 23, [9, 16, 3, 1628]), (.bipush 8, []), (.dup2, []), (.iaload, []), (.iconst 1, []), (.iadd, []), (.iastore, []), (.return_, [])], 0)])
def md_Model_passed : gD := (yX10_passed, cX10_passed, 3, (some .int), 2, (0, 0), [0, 17], [
  ([(.aload_n 0, []), (.iload_n 1, []), (.invokevirtual 158, [0, 236, 1, 9, 0, 0, 1860]), (.istore_n 2, []), (.aload_n 0, []), (.getfield 103, [9, 13, 1, 1625]), (.ifCond .ne 7, [1]), (.aload_n 0, []), (.invokevirtual 124, [0, 216, 0, 9, 0, 0, 1759])], 1),
  ([(.iload_n 2, []), (.ireturn, [])], 0)])
def md_Model_hasBit : gD := (yX10_hasBit, cX10_hasBit, 2, (some .boolean), 2, (0, 0), [0, 13, 14], [
  ([(.iload_n 0, []), (.iload_n 1, []), (.ishr, []), (.iconst 1, []), (.iand, []), (.iconst 1, []), (.if_icmp .ne 7, [1]), (.iconst 1, []), (.goto 4, [2])], 0),
  ([(.iconst 0, [])], 2),
  ([(.ireturn, [])], 0)])
def md_Model_wantsLine : gD := (yX10_wantsLine, cX10_wantsLine, 3, none, 1, (0, 0), [0, 8, 53, 83, 91, 134], [
  ([(.aload_n 0, []), (.getfield 103, [9, 13, 1, 1625]), (.ifCond .eq 4, [1]), (.return_, [])], 0),
  ([(.aload_n 0, []), (.iconst 0, []), (.invokevirtual 271, [0, 238, 1, 9, 0, 0, 1870]), (.istore_n 1, []), (.aload_n 0, []), (.iconst 1, []), (.invokevirtual 158, [0, 236, 1, 9, 0, 0, 1860]), (.istore_n 2, []), (.aload_n 0, []), (.getfield 103, [9, 13, 1, 1625]), (.ifCond .ne 29, [2]), (.aload_n 0, []), (.getfield 23, [9, 16, 3, 1628]), (.bipush 90, []), (.bipush 6, []), (.iload_n 1, []), (.imul, []), (.iadd, []), (.iload_n 2, []), (.iadd, []), (.iaload, []), (.ifCond .le 12, [2]), (.aload_n 0, []), (.iconst 3, []), (.aload_n 0, []), (.getfield 84, [9, 4, 0, 1616]), (.invokevirtual 130, [0, 223, 2, 9, 0, 0, 1788])], 2),
  ([(.aload_n 0, []), (.getfield 103, [9, 13, 1, 1625]), (.ifCond .ne 26, [3]), (.aload_n 0, []), (.iload_n 2, []), (.invokevirtual 278, [0, 241, 1, 9, 0, 0, 1881]), (.aload_n 0, []), (.iload_n 1, []), (.invokevirtual 281, [0, 242, 1, 9, 0, 0, 1885]), (.if_icmp .ne 13, [3]), (.aload_n 0, []), (.bipush 7, []), (.aload_n 0, []), (.getfield 84, [9, 4, 0, 1616]), (.invokevirtual 130, [0, 223, 2, 9, 0, 0, 1788])], 3),
  ([(.aload_n 0, []), (.getfield 103, [9, 13, 1, 1625]), (.ifCond .eq 4, [4]), (.return_, [])], 0),
  ([(.aload_n 0, []), (.invokevirtual 124, [0, 216, 0, 9, 0, 0, 1759]), (.aload_n 0, []), (.getfield 23, [9, 16, 3, 1628]), (.bipush 90, []), (.bipush 6, []), (.iload_n 1, []), (.imul, []), (.iadd, []), (.iload_n 2, []), (.iadd, []), (.aload_n 0, []), (.iconst 1, []), (.bipush 9, []), (.invokevirtual 174, [0, 227, 2, 9, 0, 0, 1805]), (.iastore, []), (.aload_n 0, []), (.getfield 103, [9, 13, 1, 1625]), (.ifCond .ne 14, [5]), (.aload_n 0, []), (.getfield 23, [9, 16, 3, 1628]), (.bipush 9, []), (.dup2, []), (.iaload, []), (.iconst 1, []), (.iadd, []), (.iastore, [])], 5),
  ([(.return_, [])], 0)])
def md_Model_sideOfHouse : gD := (yX10_sideOfHouse, cX10_sideOfHouse, 2, (some .int), 2, (0, 0), [0], [
  ([(.aload_n 0, []), (.getfield 23, [9, 16, 3, 1628]), (.bipush 12, []), (.iconst 3, []), (.iload_n 1, []), (.imul, []), (.iadd, []), (.iaload, []), (.ireturn, [])], 0)])
def md_Model_sideOfHome : gD := (yX10_sideOfHome, cX10_sideOfHome, 2, (some .int), 2, (0, 0), [0], [
  ([(.aload_n 0, []), (.getfield 23, [9, 16, 3, 1628]), (.bipush 30, []), (.iconst 5, []), (.iload_n 1, []), (.imul, []), (.iadd, []), (.iconst 4, []), (.iadd, []), (.iaload, []), (.ireturn, [])], 0)])
def md_Model_keepsLine : gD := (yX10_keepsLine, cX10_keepsLine, 4, none, 1, (0, 0), [0, 8, 48, 56, 62, 88, 102], [
  ([(.aload_n 0, []), (.getfield 103, [9, 13, 1, 1625]), (.ifCond .eq 4, [1]), (.return_, [])], 0),
  ([(.aload_n 0, []), (.iconst 1, []), (.invokevirtual 158, [0, 236, 1, 9, 0, 0, 1860]), (.istore_n 1, []), (.sipush 150, []), (.iconst 5, []), (.iload_n 1, []), (.imul, []), (.iadd, []), (.istore_n 2, []), (.aload_n 0, []), (.getfield 103, [9, 13, 1, 1625]), (.ifCond .ne 22, [2]), (.aload_n 0, []), (.getfield 23, [9, 16, 3, 1628]), (.iload_n 2, []), (.iaload, []), (.iconst 1, []), (.if_icmp .ne 12, [2]), (.aload_n 0, []), (.iconst 3, []), (.aload_n 0, []), (.getfield 84, [9, 4, 0, 1616]), (.invokevirtual 130, [0, 223, 2, 9, 0, 0, 1788])], 2),
  ([(.aload_n 0, []), (.getfield 103, [9, 13, 1, 1625]), (.ifCond .eq 4, [3]), (.return_, [])], 0),
  ([(.aload_n 0, []), (.invokevirtual 124, [0, 216, 0, 9, 0, 0, 1759]), (.iconst 1, []), (.istore_n 3, [])], 4),
  ([(.iload_n 3, []), (.iconst 5, []), (.if_icmp .ge 24, [5]), (.aload_n 0, []), (.getfield 23, [9, 16, 3, 1628]), (.iload_n 2, []), (.iload_n 3, []), (.iadd, []), (.aload_n 0, []), (.iconst 0, []), (.bipush 99, []), (.invokevirtual 174, [0, 227, 2, 9, 0, 0, 1805]), (.iastore, []), (.iinc 3 1, []), (.goto (-23), [4])], 0),
  ([(.aload_n 0, []), (.getfield 103, [9, 13, 1, 1625]), (.ifCond .ne 10, [6]), (.aload_n 0, []), (.getfield 23, [9, 16, 3, 1628]), (.iload_n 2, []), (.iconst 1, []), (.iastore, [])], 6),
  ([(.return_, [])], 0)])
def md_Model_illLine : gD := (yX10_illLine, cX10_illLine, 1, none, 1, (0, 0), [0, 20, 39, 47, 80], [
  ([(.aload_n 0, []), (.getfield 23, [9, 16, 3, 1628]), (.bipush 7, []), (.iaload, []), (.iconst 1, []), (.if_icmp .ne 12, [1]), (.aload_n 0, []), (.iconst 3, []), (.aload_n 0, []), (.getfield 84, [9, 4, 0, 1616]), (.invokevirtual 130, [0, 223, 2, 9, 0, 0, 1788])], 1),
  ([(.aload_n 0, []), (.getfield 23, [9, 16, 3, 1628]), (.iconst 0, []), (.iaload, []), (.ifCond .ne 13, [2]), (.aload_n 0, []), (.bipush 6, []), (.aload_n 0, []), (.getfield 84, [9, 4, 0, 1616]), (.invokevirtual 130, [0, 223, 2, 9, 0, 0, 1788])], 2),
  ([(.aload_n 0, []), (.getfield 103, [9, 13, 1, 1625]), (.ifCond .eq 4, [3]), (.return_, [])], 0),
  ([(.aload_n 0, []), (.invokevirtual 124, [0, 216, 0, 9, 0, 0, 1759]), (.aload_n 0, []), (.getfield 23, [9, 16, 3, 1628]), (.bipush 6, []), (.aload_n 0, []), (.iconst 0, []), (.bipush 100, []), (.invokevirtual 174, [0, 227, 2, 9, 0, 0, 1805]), (.iastore, []), (.aload_n 0, []), (.getfield 103, [9, 13, 1, 1625]), (.ifCond .ne 11, [4]), (.aload_n 0, []), (.getfield 23, [9, 16, 3, 1628]), (.bipush 7, []), (.iconst 1, []), (.iastore, [])], 4),
  ([(.return_, [])], 0)])
def md_Model_shoeLine : gD := (yX10_shoeLine, cX10_shoeLine, 3, none, 1, (0, 0), [0, 8, 50, 58], [
  ([(.aload_n 0, []), (.getfield 103, [9, 13, 1, 1625]), (.ifCond .eq 4, [1]), (.return_, [])], 0),
  ([(.aload_n 0, []), (.iconst 0, []), (.invokevirtual 271, [0, 238, 1, 9, 0, 0, 1870]), (.istore_n 1, []), (.aload_n 0, []), (.iconst 1, []), (.invokevirtual 158, [0, 236, 1, 9, 0, 0, 1860]), (.istore_n 2, []), (.aload_n 0, []), (.getfield 103, [9, 13, 1, 1625]), (.ifCond .ne 26, [2]), (.aload_n 0, []), (.iload_n 2, []), (.invokevirtual 278, [0, 241, 1, 9, 0, 0, 1881]), (.aload_n 0, []), (.iload_n 1, []), (.invokevirtual 281, [0, 242, 1, 9, 0, 0, 1885]), (.if_icmp .ne 13, [2]), (.aload_n 0, []), (.bipush 7, []), (.aload_n 0, []), (.getfield 84, [9, 4, 0, 1616]), (.invokevirtual 130, [0, 223, 2, 9, 0, 0, 1788])], 2),
  ([(.aload_n 0, []), (.getfield 103, [9, 13, 1, 1625]), (.ifCond .eq 4, [3]), (.return_, [])], 0),
  ([(.aload_n 0, []), (.invokevirtual 124, [0, 216, 0, 9, 0, 0, 1759]), (.aload_n 0, []), (.getfield 23, [9, 16, 3, 1628]), (.sipush 180, []), (.iload_n 1, []), (.iadd, []), (.dup2, []), (.iaload, []), (.iconst 1, []), (.iload_n 2, []), (.ishl, []), (.ior, []), (.iastore, []), (.aload_n 0, []), (.getfield 23, [9, 16, 3, 1628]), (.bipush 10, []), (.dup2, []), (.iaload, []), (.iconst 1, []), (.iadd, []), (.iastore, []), (.return_, [])], 0)])
def md_Model_coldLine : gD := (yX10_coldLine, cX10_coldLine, 3, none, 1, (0, 0), [0, 8, 43], [
  ([(.aload_n 0, []), (.getfield 103, [9, 13, 1, 1625]), (.ifCond .eq 4, [1]), (.return_, [])], 0),
  ([(.aload_n 0, []), (.iconst 1, []), (.invokevirtual 271, [0, 238, 1, 9, 0, 0, 1870]), (.istore_n 1, []), (.aload_n 0, []), (.iconst 0, []), (.aload_n 0, []), (.getfield 23, [9, 16, 3, 1628]), (.bipush 12, []), (.iconst 3, []), (.iload_n 1, []), (.imul, []), (.iadd, []), (.iconst 1, []), (.iadd, []), (.iaload, []), (.iconst 1, []), (.isub, []), (.invokevirtual 174, [0, 227, 2, 9, 0, 0, 1805]), (.istore_n 2, []), (.aload_n 0, []), (.getfield 103, [9, 13, 1, 1625]), (.ifCond .eq 4, [2]), (.return_, [])], 0),
  ([(.aload_n 0, []), (.getfield 23, [9, 16, 3, 1628]), (.sipush 190, []), (.aload_n 0, []), (.getfield 23, [9, 16, 3, 1628]), (.bipush 12, []), (.iconst 3, []), (.iload_n 1, []), (.imul, []), (.iadd, []), (.iconst 2, []), (.iadd, []), (.iaload, []), (.iadd, []), (.iload_n 2, []), (.iadd, []), (.iconst 1, []), (.iastore, []), (.aload_n 0, []), (.getfield 23, [9, 16, 3, 1628]), (.bipush 10, []), (.dup2, []), (.iaload, []), (.iconst 1, []), (.iadd, []), (.iastore, []), (.return_, [])], 0)])
def md_Model_copy : gD := (yX10_copy, cX10_copy, 6, none, 5, (0, 0), [0, 3, 28], [
  ([(.iconst 0, []), (.istore 5, [])], 1),
  ([(.iload 5, []), (.iload 4, []), (.if_icmp .ge 21, [2]), (.aload_n 2, []), (.iload_n 3, []), (.iload 5, []), (.iadd, []), (.aload_n 0, []), (.iload_n 1, []), (.iload 5, []), (.iadd, []), (.iaload, []), (.iastore, []), (.iinc 5 1, []), (.goto (-22), [1])], 0),
  ([(.return_, [])], 0)])
def md_Model_manOf : gD := (yX10_manOf, cX10_manOf, 3, (some .int), 3, (0, 0), [0], [
  ([(.aload_n 0, []), (.getfield 20, [9, 15, 3, 1627]), (.bipush 30, []), (.iconst 5, []), (.iload_n 1, []), (.imul, []), (.iadd, []), (.iload_n 2, []), (.iadd, []), (.iaload, []), (.ireturn, [])], 0)])
def md_Model_fault : gD := (yX10_fault, cX10_fault, 1, (some .int), 1, (0, 0), [0], [
  ([(.aload_n 0, []), (.iconst 0, []), (.putfield 65, [9, 0, 0, 1612]), (.aload_n 0, []), (.getfield 107, [9, 9, 0, 1621]), (.ireturn, [])], 0)])
def md_Model_where : gD := (yX10_where, cX10_where, 1, (some .int), 1, (0, 0), [0, 20, 21], [
  ([(.aload_n 0, []), (.iconst 0, []), (.putfield 65, [9, 0, 0, 1612]), (.aload_n 0, []), (.getfield 68, [9, 11, 0, 1623]), (.iconst 4, []), (.if_icmp .ne 10, [1]), (.aload_n 0, []), (.getfield 13, [9, 10, 0, 1622]), (.goto 4, [2])], 0),
  ([(.iconst (-1), [])], 2),
  ([(.ireturn, [])], 0)])
def md_Model_house : gD := (yX10_house, cX10_house, 3, (some .int), 3, (0, 0), [0, 21, 27, 48, 60], [
  ([(.aload_n 0, []), (.invokevirtual 177, [0, 213, 0, 9, 0, 0, 1748]), (.aload_n 0, []), (.iload_n 1, []), (.invokevirtual 287, [0, 252, 1, 9, 0, 0, 1924]), (.ifCond .eq 12, [1]), (.iload_n 2, []), (.iconst 0, []), (.iconst 3, []), (.invokestatic 162, [1, 214, 3, 0, 0, 1752]), (.ifCond .ne 9, [2])], 1),
  ([(.aload_n 0, []), (.iconst 1, []), (.invokevirtual 180, [0, 215, 1, 9, 0, 0, 1755]), (.ireturn, [])], 0),
  ([(.iload_n 2, []), (.iconst 3, []), (.if_icmp .ge 19, [3]), (.aload_n 0, []), (.getfield 20, [9, 15, 3, 1627]), (.bipush 12, []), (.iconst 3, []), (.iload_n 1, []), (.imul, []), (.iadd, []), (.iload_n 2, []), (.iadd, []), (.iaload, []), (.goto 15, [4])], 0),
  ([(.aload_n 0, []), (.getfield 20, [9, 15, 3, 1627]), (.sipush 150, []), (.iconst 5, []), (.iload_n 1, []), (.imul, []), (.iadd, []), (.iaload, [])], 4),
  ([(.ireturn, [])], 0)])
def md_Model_isHouse : gD := (yX10_isHouse, cX10_isHouse, 2, (some .boolean), 2, (0, 0), [0, 27, 28], [
  ([(.aload_n 0, []), (.getfield 193, [9, 14, 1, 1626]), (.ifCond .eq 23, [1]), (.iload_n 1, []), (.iconst 0, []), (.aload_n 0, []), (.getfield 20, [9, 15, 3, 1627]), (.iconst 4, []), (.iaload, []), (.iconst 1, []), (.isub, []), (.invokestatic 162, [1, 214, 3, 0, 0, 1752]), (.ifCond .eq 7, [1]), (.iconst 1, []), (.goto 4, [2])], 0),
  ([(.iconst 0, [])], 2),
  ([(.ireturn, [])], 0)])
def md_Model_person : gD := (yX10_person, cX10_person, 3, (some .int), 3, (0, 0), [0, 18, 60, 67, 74, 81, 88, 95, 105, 112], [
  ([(.aload_n 0, []), (.invokevirtual 177, [0, 213, 0, 9, 0, 0, 1748]), (.aload_n 0, []), (.iload_n 1, []), (.invokevirtual 290, [0, 254, 1, 9, 0, 0, 1932]), (.ifCond .ne 9, [1]), (.aload_n 0, []), (.iconst 1, []), (.invokevirtual 180, [0, 215, 1, 9, 0, 0, 1755]), (.ireturn, [])], 0),
  ([(.iload_n 2, []), (.tableswitch 93 0 6 #[41, 48, 55, 62, 69, 76, 86], [9, 2, 3, 4, 5, 6, 7, 8])], 0),
  ([(.aload_n 0, []), (.iload_n 1, []), (.iconst 0, []), (.invokevirtual 190, [0, 248, 2, 9, 0, 0, 1908]), (.ireturn, [])], 0),
  ([(.aload_n 0, []), (.iload_n 1, []), (.iconst 1, []), (.invokevirtual 190, [0, 248, 2, 9, 0, 0, 1908]), (.ireturn, [])], 0),
  ([(.aload_n 0, []), (.iload_n 1, []), (.iconst 4, []), (.invokevirtual 190, [0, 248, 2, 9, 0, 0, 1908]), (.ireturn, [])], 0),
  ([(.aload_n 0, []), (.iload_n 1, []), (.iconst 2, []), (.invokevirtual 190, [0, 248, 2, 9, 0, 0, 1908]), (.ireturn, [])], 0),
  ([(.aload_n 0, []), (.iload_n 1, []), (.iconst 3, []), (.invokevirtual 190, [0, 248, 2, 9, 0, 0, 1908]), (.ireturn, [])], 0),
  ([(.aload_n 0, []), (.getfield 20, [9, 15, 3, 1627]), (.bipush 80, []), (.iload_n 1, []), (.iadd, []), (.iaload, []), (.ireturn, [])], 0),
  ([(.aload_n 0, []), (.iload_n 1, []), (.iconst 3, []), (.invokevirtual 284, [0, 255, 2, 9, 0, 0, 1936]), (.ireturn, [])], 0),
  ([(.aload_n 0, []), (.iconst 1, []), (.invokevirtual 180, [0, 215, 1, 9, 0, 0, 1755]), (.ireturn, [])], 0)])
def md_Model_isPerson : gD := (yX10_isPerson, cX10_isPerson, 2, (some .boolean), 2, (0, 0), [0, 27, 28], [
  ([(.aload_n 0, []), (.getfield 193, [9, 14, 1, 1626]), (.ifCond .eq 23, [1]), (.iload_n 1, []), (.iconst 0, []), (.aload_n 0, []), (.getfield 20, [9, 15, 3, 1627]), (.iconst 5, []), (.iaload, []), (.iconst 1, []), (.isub, []), (.invokestatic 162, [1, 214, 3, 0, 0, 1752]), (.ifCond .eq 7, [1]), (.iconst 1, []), (.goto 4, [2])], 0),
  ([(.iconst 0, [])], 2),
  ([(.ireturn, [])], 0)])
def md_Model_its : gD := (yX10_its, cX10_its, 3, (some .int), 3, (0, 0), [0], [
  ([(.aload_n 0, []), (.getfield 26, [9, 17, 3, 1629]), (.iconst 2, []), (.iconst 4, []), (.iload_n 1, []), (.imul, []), (.iadd, []), (.iload_n 2, []), (.iadd, []), (.iaload, []), (.ireturn, [])], 0)])
def md_Model_houseOf : gD := (yX10_houseOf, cX10_houseOf, 2, (some .int), 2, (0, 0), [0, 25, 30], [
  ([(.aload_n 0, []), (.invokevirtual 177, [0, 213, 0, 9, 0, 0, 1748]), (.aload_n 0, []), (.iload_n 1, []), (.invokevirtual 293, [0, 257, 1, 9, 0, 0, 1944]), (.ifCond .eq 16, [1]), (.aload_n 0, []), (.getfield 20, [9, 15, 3, 1627]), (.sipush 202, []), (.iload_n 1, []), (.iadd, []), (.iaload, []), (.goto 8, [2])], 0),
  ([(.aload_n 0, []), (.iconst 1, []), (.invokevirtual 180, [0, 215, 1, 9, 0, 0, 1755])], 2),
  ([(.ireturn, [])], 0)])
def md_Model_isBed : gD := (yX10_isBed, cX10_isBed, 2, (some .boolean), 2, (0, 0), [0, 28, 29], [
  ([(.aload_n 0, []), (.getfield 193, [9, 14, 1, 1626]), (.ifCond .eq 24, [1]), (.iload_n 1, []), (.iconst 0, []), (.aload_n 0, []), (.getfield 20, [9, 15, 3, 1627]), (.bipush 11, []), (.iaload, []), (.iconst 1, []), (.isub, []), (.invokestatic 162, [1, 214, 3, 0, 0, 1752]), (.ifCond .eq 7, [1]), (.iconst 1, []), (.goto 4, [2])], 0),
  ([(.iconst 0, [])], 2),
  ([(.ireturn, [])], 0)])
def md_Model_wants : gD := (yX10_wants, cX10_wants, 3, (some .int), 3, (0, 0), [0, 37, 42], [
  ([(.aload_n 0, []), (.invokevirtual 177, [0, 213, 0, 9, 0, 0, 1748]), (.aload_n 0, []), (.iload_n 1, []), (.invokevirtual 290, [0, 254, 1, 9, 0, 0, 1932]), (.ifCond .eq 28, [1]), (.aload_n 0, []), (.iload_n 2, []), (.invokevirtual 287, [0, 252, 1, 9, 0, 0, 1924]), (.ifCond .eq 20, [1]), (.aload_n 0, []), (.getfield 20, [9, 15, 3, 1627]), (.bipush 90, []), (.bipush 6, []), (.iload_n 1, []), (.imul, []), (.iadd, []), (.iload_n 2, []), (.iadd, []), (.iaload, []), (.goto 8, [2])], 0),
  ([(.aload_n 0, []), (.iconst 1, []), (.invokevirtual 180, [0, 215, 1, 9, 0, 0, 1755])], 2),
  ([(.ireturn, [])], 0)])
def md_Model_bed : gD := (yX10_bed, cX10_bed, 2, (some .int), 2, (0, 0), [0, 18, 31, 36], [
  ([(.aload_n 0, []), (.invokevirtual 177, [0, 213, 0, 9, 0, 0, 1748]), (.aload_n 0, []), (.iload_n 1, []), (.invokevirtual 290, [0, 254, 1, 9, 0, 0, 1932]), (.ifCond .ne 9, [1]), (.aload_n 0, []), (.iconst 1, []), (.invokevirtual 180, [0, 215, 1, 9, 0, 0, 1755]), (.ireturn, [])], 0),
  ([(.aload_n 0, []), (.iload_n 1, []), (.invokevirtual 296, [0, 260, 1, 9, 0, 0, 1956]), (.ifCond .ge 8, [2]), (.bipush (-2), []), (.goto 8, [3])], 0),
  ([(.aload_n 0, []), (.iload_n 1, []), (.invokevirtual 296, [0, 260, 1, 9, 0, 0, 1956])], 3),
  ([(.ireturn, [])], 0)])
def md_Model_bedNow : gD := (yX10_bedNow, cX10_bedNow, 2, (some .int), 2, (0, 0), [0], [
  ([(.aload_n 0, []), (.iload_n 1, []), (.iconst 0, []), (.invokevirtual 284, [0, 255, 2, 9, 0, 0, 1936]), (.iconst 1, []), (.isub, []), (.ireturn, [])], 0)])
def md_Model_who : gD := (yX10_who, cX10_who, 3, (some .int), 2, (0, 0), [0, 18, 20, 41, 47], [
  ([(.aload_n 0, []), (.invokevirtual 177, [0, 213, 0, 9, 0, 0, 1748]), (.aload_n 0, []), (.iload_n 1, []), (.invokevirtual 293, [0, 257, 1, 9, 0, 0, 1944]), (.ifCond .ne 9, [1]), (.aload_n 0, []), (.iconst 1, []), (.invokevirtual 180, [0, 215, 1, 9, 0, 0, 1755]), (.ireturn, [])], 0),
  ([(.iconst 0, []), (.istore_n 2, [])], 2),
  ([(.iload_n 2, []), (.aload_n 0, []), (.getfield 20, [9, 15, 3, 1627]), (.iconst 5, []), (.iaload, []), (.if_icmp .ge 20, [4]), (.aload_n 0, []), (.iload_n 2, []), (.invokevirtual 296, [0, 260, 1, 9, 0, 0, 1956]), (.iload_n 1, []), (.if_icmp .ne 5, [3]), (.iload_n 2, []), (.ireturn, [])], 0),
  ([(.iinc 2 1, []), (.goto (-24), [2])], 0),
  ([(.bipush (-2), []), (.ireturn, [])], 0)])
def md_Model_wrong : gD := (yX10_wrong, cX10_wrong, 2, (some .int), 2, (0, 0), [0, 18], [
  ([(.aload_n 0, []), (.invokevirtual 177, [0, 213, 0, 9, 0, 0, 1748]), (.aload_n 0, []), (.iload_n 1, []), (.invokevirtual 290, [0, 254, 1, 9, 0, 0, 1932]), (.ifCond .ne 9, [1]), (.aload_n 0, []), (.iconst 1, []), (.invokevirtual 180, [0, 215, 1, 9, 0, 0, 1755]), (.ireturn, [])], 0),
  ([(.aload_n 0, []), (.invokevirtual 305, [0, 263, 0, 9, 0, 0, 1968]), (.aload_n 0, []), (.iload_n 1, []), (.iconst 0, []), (.invokevirtual 308, [0, 264, 2, 9, 0, 0, 1972]), (.ireturn, [])], 0)])
def md_Model_layBeds : gD := (yX10_layBeds, cX10_layBeds, 2, none, 1, (0, 0), [0, 2, 31, 32, 39], [
  ([(.iconst 0, []), (.istore_n 1, [])], 1),
  ([(.iload_n 1, []), (.bipush 10, []), (.if_icmp .ge 34, [4]), (.aload_n 0, []), (.getfield 38, [9, 23, 3, 1635]), (.iload_n 1, []), (.iload_n 1, []), (.aload_n 0, []), (.getfield 20, [9, 15, 3, 1627]), (.iconst 5, []), (.iaload, []), (.if_icmp .ge 11, [2]), (.aload_n 0, []), (.iload_n 1, []), (.invokevirtual 296, [0, 260, 1, 9, 0, 0, 1956]), (.goto 4, [3])], 0),
  ([(.iconst (-1), [])], 3),
  ([(.iastore, []), (.iinc 1 1, []), (.goto (-34), [1])], 0),
  ([(.return_, [])], 0)])
def md_Model_wrongWith : gD := (yX10_wrongWith, cX10_wrongWith, 9, (some .int), 3, (0, 0), [0, 13, 42, 45, 64, 70, 107, 113, 170, 171, 180, 197, 215, 216, 221, 245, 262, 279, 281, 313, 317, 318, 320, 326, 336, 355, 356], [
  ([(.aload_n 0, []), (.getfield 38, [9, 23, 3, 1635]), (.iload_n 1, []), (.iaload, []), (.istore_n 3, []), (.iload_n 3, []), (.ifCond .ge 5, [1]), (.iconst 0, []), (.ireturn, [])], 0),
  ([(.aload_n 0, []), (.getfield 20, [9, 15, 3, 1627]), (.sipush 202, []), (.iload_n 3, []), (.iadd, []), (.iaload, []), (.istore 4, []), (.aload_n 0, []), (.iload 4, []), (.invokevirtual 299, [0, 265, 1, 9, 0, 0, 1976]), (.aload_n 0, []), (.iload_n 1, []), (.iconst 4, []), (.invokevirtual 190, [0, 248, 2, 9, 0, 0, 1908]), (.if_icmp .ne 5, [2]), (.iconst 1, []), (.ireturn, [])], 0),
  ([(.iconst 0, []), (.istore 5, [])], 3),
  ([(.iload 5, []), (.iload_n 1, []), (.if_icmp .ge 22, [5]), (.aload_n 0, []), (.getfield 38, [9, 23, 3, 1635]), (.iload 5, []), (.iaload, []), (.iload_n 3, []), (.if_icmp .ne 5, [4]), (.iconst 2, []), (.ireturn, [])], 0),
  ([(.iinc 5 1, []), (.goto (-22), [3])], 0),
  ([(.iload_n 2, []), (.ifCond .ne 36, [6]), (.aload_n 0, []), (.iload_n 1, []), (.iload_n 3, []), (.invokevirtual 302, [0, 266, 2, 9, 0, 0, 1980]), (.ifCond .le 27, [6]), (.aload_n 0, []), (.getfield 26, [9, 17, 3, 1629]), (.iconst 0, []), (.iaload, []), (.aload_n 0, []), (.iload_n 1, []), (.iload_n 3, []), (.invokevirtual 302, [0, 266, 2, 9, 0, 0, 1980]), (.isub, []), (.aload_n 0, []), (.getfield 20, [9, 15, 3, 1627]), (.iconst 1, []), (.iaload, []), (.if_icmp .ge 5, [6]), (.iconst 3, []), (.ireturn, [])], 0),
  ([(.iconst 0, []), (.istore 5, []), (.iconst 0, []), (.istore 6, [])], 7),
  ([(.iload 6, []), (.aload_n 0, []), (.getfield 20, [9, 15, 3, 1627]), (.iconst 5, []), (.iaload, []), (.if_icmp .ge 59, [10]), (.iload 5, []), (.iload 6, []), (.iload_n 1, []), (.if_icmp .eq 41, [8]), (.aload_n 0, []), (.getfield 38, [9, 23, 3, 1635]), (.iload 6, []), (.iaload, []), (.ifCond .lt 31, [8]), (.aload_n 0, []), (.getfield 20, [9, 15, 3, 1627]), (.sipush 202, []), (.aload_n 0, []), (.getfield 38, [9, 23, 3, 1635]), (.iload 6, []), (.iaload, []), (.iadd, []), (.iaload, []), (.iload 4, []), (.if_icmp .ne 10, [8]), (.iconst 1, []), (.iload 6, []), (.ishl, []), (.goto 4, [9])], 0),
  ([(.iconst 0, [])], 9),
  ([(.ior, []), (.istore 5, []), (.iinc 6 1, []), (.goto (-64), [7])], 0),
  ([(.iload 5, []), (.aload_n 0, []), (.getfield 20, [9, 15, 3, 1627]), (.bipush 80, []), (.iload_n 1, []), (.iadd, []), (.iaload, []), (.iand, []), (.ifCond .eq 5, [11]), (.iconst 4, []), (.ireturn, [])], 0),
  ([(.aload_n 0, []), (.iload_n 1, []), (.iconst 0, []), (.invokevirtual 190, [0, 248, 2, 9, 0, 0, 1908]), (.istore 6, []), (.iload 6, []), (.iconst 3, []), (.if_icmp .ne 7, [12]), (.iconst 1, []), (.goto 4, [13])], 0),
  ([(.iconst 0, [])], 13),
  ([(.istore 7, []), (.iconst 0, []), (.istore 8, [])], 14),
  ([(.iload 8, []), (.aload_n 0, []), (.getfield 20, [9, 15, 3, 1627]), (.iconst 5, []), (.iaload, []), (.if_icmp .ge 97, [23]), (.iload 5, []), (.iload 8, []), (.invokestatic 274, [1, 239, 2, 0, 0, 1874]), (.ifCond .ne 6, [15]), (.goto 78, [22])], 0),
  ([(.iload 6, []), (.iconst 1, []), (.if_icmp .ne 14, [16]), (.aload_n 0, []), (.iload 8, []), (.iconst 0, []), (.invokevirtual 190, [0, 248, 2, 9, 0, 0, 1908]), (.iconst 2, []), (.if_icmp .eq 20, [17])], 16),
  ([(.iload 6, []), (.iconst 2, []), (.if_icmp .ne 16, [18]), (.aload_n 0, []), (.iload 8, []), (.iconst 0, []), (.invokevirtual 190, [0, 248, 2, 9, 0, 0, 1908]), (.iconst 1, []), (.if_icmp .ne 5, [18])], 17),
  ([(.iconst 5, []), (.ireturn, [])], 0),
  ([(.iload 7, []), (.ifCond .eq 34, [20]), (.aload_n 0, []), (.iload 8, []), (.iconst 3, []), (.invokevirtual 190, [0, 248, 2, 9, 0, 0, 1908]), (.aload_n 0, []), (.iload_n 1, []), (.iconst 3, []), (.invokevirtual 190, [0, 248, 2, 9, 0, 0, 1908]), (.if_icmp .ne 14, [19]), (.aload_n 0, []), (.iload 8, []), (.iconst 0, []), (.invokevirtual 190, [0, 248, 2, 9, 0, 0, 1908]), (.iconst 3, []), (.if_icmp .ne 7, [20])], 19),
  ([(.iconst 1, []), (.goto 4, [21])], 0),
  ([(.iconst 0, [])], 21),
  ([(.istore 7, [])], 22),
  ([(.iinc 8 1, []), (.goto (-102), [14])], 0),
  ([(.iload 7, []), (.ifCond .eq 8, [24]), (.bipush 6, []), (.goto 23, [26])], 0),
  ([(.iload_n 2, []), (.ifCond .ne 18, [25]), (.aload_n 0, []), (.iload_n 1, []), (.iconst 3, []), (.invokevirtual 284, [0, 255, 2, 9, 0, 0, 1936]), (.iconst 1, []), (.if_icmp .ne 8, [25]), (.bipush 7, []), (.goto 4, [26])], 0),
  ([(.iconst 0, [])], 26),
  ([(.ireturn, [])], 0)])
def md_Model_houseSide : gD := (yX10_houseSide, cX10_houseSide, 2, (some .int), 2, (0, 0), [0], [
  ([(.aload_n 0, []), (.getfield 20, [9, 15, 3, 1627]), (.bipush 12, []), (.iconst 3, []), (.iload_n 1, []), (.imul, []), (.iadd, []), (.iaload, []), (.ireturn, [])], 0)])
def md_Model_lastIn : gD := (yX10_lastIn, cX10_lastIn, 3, (some .int), 3, (0, 0), [0], [
  ([(.aload_n 0, []), (.getfield 26, [9, 17, 3, 1629]), (.bipush 42, []), (.bipush 12, []), (.iload_n 1, []), (.imul, []), (.iadd, []), (.iload_n 2, []), (.iadd, []), (.iaload, []), (.ireturn, [])], 0)])
def md_Model_firstWrong : gD := (yX10_firstWrong, cX10_firstWrong, 1, (some .int), 1, (0, 0), [0, 18, 23], [
  ([(.aload_n 0, []), (.invokevirtual 177, [0, 213, 0, 9, 0, 0, 1748]), (.aload_n 0, []), (.getfield 193, [9, 14, 1, 1626]), (.ifCond .eq 10, [1]), (.aload_n 0, []), (.invokevirtual 312, [0, 268, 0, 9, 0, 0, 1988]), (.goto 8, [2])], 0),
  ([(.aload_n 0, []), (.iconst 1, []), (.invokevirtual 180, [0, 215, 1, 9, 0, 0, 1755])], 2),
  ([(.ireturn, [])], 0)])
def md_Model_firstWrongOf : gD := (yX10_firstWrongOf, cX10_firstWrongOf, 2, (some .int), 1, (0, 0), [0, 6, 27, 33], [
  ([(.aload_n 0, []), (.invokevirtual 305, [0, 263, 0, 9, 0, 0, 1968]), (.iconst 0, []), (.istore_n 1, [])], 1),
  ([(.iload_n 1, []), (.aload_n 0, []), (.getfield 20, [9, 15, 3, 1627]), (.iconst 5, []), (.iaload, []), (.if_icmp .ge 20, [3]), (.aload_n 0, []), (.iload_n 1, []), (.iconst 0, []), (.invokevirtual 308, [0, 264, 2, 9, 0, 0, 1972]), (.ifCond .eq 5, [2]), (.iload_n 1, []), (.ireturn, [])], 0),
  ([(.iinc 1 1, []), (.goto (-24), [1])], 0),
  ([(.bipush (-2), []), (.ireturn, [])], 0)])
def md_Model_wrongIn : gD := (yX10_wrongIn, cX10_wrongIn, 3, (some .int), 3, (0, 0), [0, 20, 26], [
  ([(.aload_n 0, []), (.invokevirtual 177, [0, 213, 0, 9, 0, 0, 1748]), (.aload_n 0, []), (.iload_n 1, []), (.invokevirtual 290, [0, 254, 1, 9, 0, 0, 1932]), (.ifCond .eq 11, [1]), (.aload_n 0, []), (.iload_n 2, []), (.invokevirtual 293, [0, 257, 1, 9, 0, 0, 1944]), (.ifCond .ne 9, [2])], 1),
  ([(.aload_n 0, []), (.iconst 1, []), (.invokevirtual 180, [0, 215, 1, 9, 0, 0, 1755]), (.ireturn, [])], 0),
  ([(.aload_n 0, []), (.invokevirtual 305, [0, 263, 0, 9, 0, 0, 1968]), (.aload_n 0, []), (.getfield 38, [9, 23, 3, 1635]), (.iload_n 1, []), (.iload_n 2, []), (.iastore, []), (.aload_n 0, []), (.iload_n 1, []), (.iconst 0, []), (.invokevirtual 308, [0, 264, 2, 9, 0, 0, 1972]), (.ireturn, [])], 0)])
def md_Model_worth : gD := (yX10_worth, cX10_worth, 4, (some .int), 2, (0, 0), [0, 18, 22, 56, 57, 65], [
  ([(.aload_n 0, []), (.invokevirtual 177, [0, 213, 0, 9, 0, 0, 1748]), (.aload_n 0, []), (.iload_n 1, []), (.invokevirtual 315, [0, 271, 1, 9, 0, 0, 2000]), (.ifCond .ne 9, [1]), (.aload_n 0, []), (.iconst 1, []), (.invokevirtual 180, [0, 215, 1, 9, 0, 0, 1755]), (.ireturn, [])], 0),
  ([(.iconst 0, []), (.istore_n 2, []), (.iconst 0, []), (.istore_n 3, [])], 2),
  ([(.iload_n 3, []), (.aload_n 0, []), (.getfield 20, [9, 15, 3, 1627]), (.iconst 5, []), (.iaload, []), (.if_icmp .ge 36, [5]), (.iload_n 2, []), (.aload_n 0, []), (.iload_n 3, []), (.iconst 4, []), (.invokevirtual 190, [0, 248, 2, 9, 0, 0, 1908]), (.iload_n 1, []), (.if_icmp .ne 16, [3]), (.aload_n 0, []), (.iload_n 3, []), (.aload_n 0, []), (.iload_n 3, []), (.invokevirtual 296, [0, 260, 1, 9, 0, 0, 1956]), (.invokevirtual 318, [0, 272, 2, 9, 0, 0, 2004]), (.goto 4, [4])], 0),
  ([(.iconst 0, [])], 4),
  ([(.iadd, []), (.istore_n 2, []), (.iinc 3 1, []), (.goto (-40), [2])], 0),
  ([(.iload_n 2, []), (.ireturn, [])], 0)])
def md_Model_isSide : gD := (yX10_isSide, cX10_isSide, 2, (some .boolean), 2, (0, 0), [0, 20, 21], [
  ([(.aload_n 0, []), (.getfield 193, [9, 14, 1, 1626]), (.ifCond .eq 16, [1]), (.iload_n 1, []), (.iconst 0, []), (.iconst 1, []), (.invokestatic 162, [1, 214, 3, 0, 0, 1752]), (.ifCond .eq 7, [1]), (.iconst 1, []), (.goto 4, [2])], 0),
  ([(.iconst 0, [])], 2),
  ([(.ireturn, [])], 0)])
def md_Model_worthOf : gD := (yX10_worthOf, cX10_worthOf, 3, (some .int), 3, (0, 0), [0, 8, 31], [
  ([(.iload_n 2, []), (.ifCond .ge 7, [1]), (.iconst 0, []), (.goto 26, [2])], 0),
  ([(.aload_n 0, []), (.getfield 20, [9, 15, 3, 1627]), (.bipush 90, []), (.bipush 6, []), (.iload_n 1, []), (.imul, []), (.iadd, []), (.aload_n 0, []), (.getfield 20, [9, 15, 3, 1627]), (.sipush 202, []), (.iload_n 2, []), (.iadd, []), (.iaload, []), (.iadd, []), (.iaload, [])], 2),
  ([(.ireturn, [])], 0)])
def md_Model_rows : gD := (yX10_rows, cX10_rows, 2, (some .int), 2, (0, 0), [0, 18], [
  ([(.aload_n 0, []), (.invokevirtual 177, [0, 213, 0, 9, 0, 0, 1748]), (.aload_n 0, []), (.iload_n 1, []), (.invokevirtual 315, [0, 271, 1, 9, 0, 0, 2000]), (.ifCond .ne 9, [1]), (.aload_n 0, []), (.iconst 1, []), (.invokevirtual 180, [0, 215, 1, 9, 0, 0, 1755]), (.ireturn, [])], 0),
  ([(.aload_n 0, []), (.iload_n 1, []), (.iconst 0, []), (.invokevirtual 353, [0, 274, 2, 9, 0, 0, 2012]), (.aload_n 0, []), (.getfield 327, [9, 26, 0, 1638]), (.ireturn, [])], 0)])
def md_Model_seek : gD := (yX10_seek, cX10_seek, 4, none, 3, (0, 0), [0, 24, 43, 45, 65, 67, 86], [
  ([(.aload_n 0, []), (.iload_n 1, []), (.putfield 321, [9, 25, 0, 1637]), (.aload_n 0, []), (.iload_n 2, []), (.putfield 324, [9, 24, 1, 1636]), (.aload_n 0, []), (.iconst 0, []), (.putfield 327, [9, 26, 0, 1638]), (.aload_n 0, []), (.ldc_w 330, [0, 1000000, 2016]), (.putfield 331, [9, 27, 0, 1639]), (.iconst 0, []), (.istore_n 3, [])], 1),
  ([(.iload_n 3, []), (.bipush 10, []), (.if_icmp .ge 16, [2]), (.aload_n 0, []), (.getfield 38, [9, 23, 3, 1635]), (.iload_n 3, []), (.iconst (-1), []), (.iastore, []), (.iinc 3 1, []), (.goto (-16), [1])], 0),
  ([(.iconst 0, []), (.istore_n 3, [])], 3),
  ([(.iload_n 3, []), (.sipush 130, []), (.if_icmp .ge 16, [4]), (.aload_n 0, []), (.getfield 44, [9, 31, 3, 1643]), (.iload_n 3, []), (.iconst 0, []), (.iastore, []), (.iinc 3 1, []), (.goto (-17), [3])], 0),
  ([(.iconst 0, []), (.istore_n 3, [])], 5),
  ([(.iload_n 3, []), (.bipush 12, []), (.if_icmp .ge 16, [6]), (.aload_n 0, []), (.getfield 47, [9, 32, 3, 1644]), (.iload_n 3, []), (.iconst 0, []), (.iastore, []), (.iinc 3 1, []), (.goto (-16), [5])], 0),
  ([(.aload_n 0, []), (.iconst 0, []), (.iconst 0, []), (.invokevirtual 334, [0, 275, 2, 9, 0, 0, 2017]), (.return_, [])], 0)])
def md_Model_seekFrom : gD := (yX10_seekFrom, cX10_seekFrom, 4, none, 3, (0, 0), [0, 15, 37, 39, 70, 89, 95], [
  ([(.iload_n 1, []), (.aload_n 0, []), (.getfield 20, [9, 15, 3, 1627]), (.iconst 5, []), (.iaload, []), (.if_icmp .ne 8, [1]), (.aload_n 0, []), (.invokevirtual 337, [0, 276, 0, 9, 0, 0, 2021]), (.return_, [])], 0),
  ([(.aload_n 0, []), (.iload_n 1, []), (.iconst 4, []), (.invokevirtual 190, [0, 248, 2, 9, 0, 0, 1908]), (.aload_n 0, []), (.getfield 321, [9, 25, 0, 1637]), (.if_icmp .eq 12, [2]), (.aload_n 0, []), (.iload_n 1, []), (.iconst 1, []), (.iadd, []), (.iload_n 2, []), (.invokevirtual 334, [0, 275, 2, 9, 0, 0, 2017]), (.return_, [])], 0),
  ([(.iconst 0, []), (.istore_n 3, [])], 3),
  ([(.iload_n 3, []), (.aload_n 0, []), (.getfield 20, [9, 15, 3, 1627]), (.bipush 11, []), (.iaload, []), (.if_icmp .ge 48, [6]), (.iload_n 2, []), (.iload_n 3, []), (.invokestatic 274, [1, 239, 2, 0, 0, 1874]), (.ifCond .ne 34, [5]), (.aload_n 0, []), (.iload_n 1, []), (.iload_n 3, []), (.invokevirtual 340, [0, 278, 2, 9, 0, 0, 2029]), (.ifCond .ne 6, [4]), (.goto 22, [5])], 0),
  ([(.aload_n 0, []), (.getfield 38, [9, 23, 3, 1635]), (.iload_n 1, []), (.iload_n 3, []), (.iastore, []), (.aload_n 0, []), (.iload_n 1, []), (.iconst 1, []), (.iadd, []), (.iload_n 2, []), (.iconst 1, []), (.iload_n 3, []), (.ishl, []), (.ior, []), (.invokevirtual 334, [0, 275, 2, 9, 0, 0, 2017])], 5),
  ([(.iinc 3 1, []), (.goto (-53), [3])], 0),
  ([(.aload_n 0, []), (.getfield 38, [9, 23, 3, 1635]), (.iload_n 1, []), (.iconst (-1), []), (.iastore, []), (.aload_n 0, []), (.iload_n 1, []), (.iconst 1, []), (.iadd, []), (.iload_n 2, []), (.invokevirtual 334, [0, 275, 2, 9, 0, 0, 2017]), (.return_, [])], 0)])
def md_Model_endRow : gD := (yX10_endRow, cX10_endRow, 5, none, 1, (0, 0), [0, 2, 25, 31, 46, 65, 93, 108, 109, 132, 133, 175, 182, 214, 220, 260, 264, 265, 273], [
  ([(.iconst 0, []), (.istore_n 1, [])], 1),
  ([(.iload_n 1, []), (.aload_n 0, []), (.getfield 20, [9, 15, 3, 1627]), (.iconst 5, []), (.iaload, []), (.if_icmp .ge 22, [3]), (.aload_n 0, []), (.iload_n 1, []), (.aload_n 0, []), (.getfield 324, [9, 24, 1, 1636]), (.invokevirtual 308, [0, 264, 2, 9, 0, 0, 1972]), (.ifCond .eq 4, [2]), (.return_, [])], 0),
  ([(.iinc 1 1, []), (.goto (-26), [1])], 0),
  ([(.aload_n 0, []), (.getfield 324, [9, 24, 1, 1636]), (.ifCond .eq 11, [4]), (.aload_n 0, []), (.invokevirtual 343, [0, 277, 0, 9, 0, 0, 2025]), (.ifCond .ne 4, [4]), (.return_, [])], 0),
  ([(.aload_n 0, []), (.dup, []), (.getfield 327, [9, 26, 0, 1638]), (.iconst 1, []), (.iadd, []), (.putfield 327, [9, 26, 0, 1638]), (.iconst 0, []), (.istore_n 1, []), (.iconst 0, []), (.istore_n 2, []), (.iconst 0, []), (.istore_n 3, []), (.iconst 0, []), (.istore 4, [])], 5),
  ([(.iload 4, []), (.aload_n 0, []), (.getfield 20, [9, 15, 3, 1627]), (.iconst 5, []), (.iaload, []), (.if_icmp .ge 147, [14]), (.aload_n 0, []), (.iload 4, []), (.iconst 4, []), (.invokevirtual 190, [0, 248, 2, 9, 0, 0, 1908]), (.aload_n 0, []), (.getfield 321, [9, 25, 0, 1637]), (.if_icmp .eq 6, [6]), (.goto 124, [13])], 0),
  ([(.iload_n 1, []), (.aload_n 0, []), (.getfield 38, [9, 23, 3, 1635]), (.iload 4, []), (.iaload, []), (.ifCond .ge 7, [7]), (.iconst 1, []), (.goto 4, [8])], 0),
  ([(.iconst 0, [])], 8),
  ([(.iadd, []), (.istore_n 1, []), (.iload_n 2, []), (.aload_n 0, []), (.getfield 38, [9, 23, 3, 1635]), (.iload 4, []), (.iaload, []), (.ifCond .ge 13, [9]), (.aload_n 0, []), (.iload 4, []), (.iconst 1, []), (.invokevirtual 284, [0, 255, 2, 9, 0, 0, 1936]), (.goto 4, [10])], 0),
  ([(.iconst 0, [])], 10),
  ([(.iadd, []), (.istore_n 2, []), (.iload_n 3, []), (.aload_n 0, []), (.iload 4, []), (.aload_n 0, []), (.getfield 38, [9, 23, 3, 1635]), (.iload 4, []), (.iaload, []), (.invokevirtual 318, [0, 272, 2, 9, 0, 0, 2004]), (.iadd, []), (.istore_n 3, []), (.aload_n 0, []), (.getfield 44, [9, 31, 3, 1643]), (.bipush 13, []), (.iload 4, []), (.imul, []), (.aload_n 0, []), (.getfield 38, [9, 23, 3, 1635]), (.iload 4, []), (.iaload, []), (.ifCond .ge 8, [11]), (.bipush 12, []), (.goto 10, [12])], 0),
  ([(.aload_n 0, []), (.getfield 38, [9, 23, 3, 1635]), (.iload 4, []), (.iaload, [])], 12),
  ([(.iadd, []), (.dup2, []), (.iaload, []), (.iconst 1, []), (.iadd, []), (.iastore, []), (.aload_n 0, []), (.getfield 38, [9, 23, 3, 1635]), (.iload 4, []), (.iaload, []), (.ifCond .lt 19, [13]), (.aload_n 0, []), (.getfield 47, [9, 32, 3, 1644]), (.aload_n 0, []), (.getfield 38, [9, 23, 3, 1635]), (.iload 4, []), (.iaload, []), (.dup2, []), (.iaload, []), (.iconst 1, []), (.iadd, []), (.iastore, [])], 13),
  ([(.iinc 4 1, []), (.goto (-152), [5])], 0),
  ([(.iload_n 1, []), (.aload_n 0, []), (.getfield 331, [9, 27, 0, 1639]), (.if_icmp .lt 35, [15]), (.iload_n 1, []), (.aload_n 0, []), (.getfield 331, [9, 27, 0, 1639]), (.if_icmp .ne 31, [16]), (.iload_n 2, []), (.aload_n 0, []), (.getfield 347, [9, 28, 0, 1640]), (.if_icmp .lt 19, [15]), (.iload_n 2, []), (.aload_n 0, []), (.getfield 347, [9, 28, 0, 1640]), (.if_icmp .ne 15, [16]), (.iload_n 3, []), (.aload_n 0, []), (.getfield 350, [9, 29, 0, 1641]), (.if_icmp .le 7, [16])], 15),
  ([(.iconst 1, []), (.goto 4, [17])], 0),
  ([(.iconst 0, [])], 17),
  ([(.istore 4, []), (.iload 4, []), (.ifCond .ne 4, [18]), (.return_, [])], 0),
  ([(.aload_n 0, []), (.iload_n 1, []), (.putfield 331, [9, 27, 0, 1639]), (.aload_n 0, []), (.iload_n 2, []), (.putfield 347, [9, 28, 0, 1640]), (.aload_n 0, []), (.iload_n 3, []), (.putfield 350, [9, 29, 0, 1641]), (.aload_n 0, []), (.getfield 38, [9, 23, 3, 1635]), (.iconst 0, []), (.aload_n 0, []), (.getfield 41, [9, 30, 3, 1642]), (.iconst 0, []), (.bipush 10, []), (.invokestatic 186, [1, 247, 5, 0, 0, 1905]), (.return_, [])], 0)])
def md_Model_areShoesThere : gD := (yX10_areShoesThere, cX10_areShoesThere, 3, (some .boolean), 1, (0, 0), [0, 4, 43, 90, 91, 92, 98], [
  ([(.iconst 1, []), (.istore_n 1, []), (.iconst 0, []), (.istore_n 2, [])], 1),
  ([(.iload_n 2, []), (.aload_n 0, []), (.getfield 20, [9, 15, 3, 1627]), (.iconst 5, []), (.iaload, []), (.if_icmp .ge 87, [6]), (.aload_n 0, []), (.iload_n 2, []), (.iconst 4, []), (.invokevirtual 190, [0, 248, 2, 9, 0, 0, 1908]), (.aload_n 0, []), (.getfield 321, [9, 25, 0, 1637]), (.if_icmp .ne 68, [5]), (.aload_n 0, []), (.getfield 20, [9, 15, 3, 1627]), (.sipush 180, []), (.iload_n 2, []), (.iadd, []), (.iaload, []), (.ifCond .ne 6, [2]), (.goto 52, [5])], 0),
  ([(.iload_n 1, []), (.ifCond .eq 46, [3]), (.aload_n 0, []), (.getfield 38, [9, 23, 3, 1635]), (.iload_n 2, []), (.iaload, []), (.ifCond .lt 37, [3]), (.aload_n 0, []), (.getfield 20, [9, 15, 3, 1627]), (.sipush 180, []), (.iload_n 2, []), (.iadd, []), (.iaload, []), (.iconst 1, []), (.aload_n 0, []), (.getfield 20, [9, 15, 3, 1627]), (.sipush 202, []), (.aload_n 0, []), (.getfield 38, [9, 23, 3, 1635]), (.iload_n 2, []), (.iaload, []), (.iadd, []), (.iaload, []), (.ishl, []), (.if_icmp .ne 7, [3]), (.iconst 1, []), (.goto 4, [4])], 0),
  ([(.iconst 0, [])], 4),
  ([(.istore_n 1, [])], 5),
  ([(.iinc 2 1, []), (.goto (-91), [1])], 0),
  ([(.iload_n 1, []), (.ireturn, [])], 0)])
def md_Model_mayBeIn : gD := (yX10_mayBeIn, cX10_mayBeIn, 3, (some .boolean), 3, (0, 0), [0, 23, 47, 48, 49, 89, 93, 94], [
  ([(.aload_n 0, []), (.aload_n 0, []), (.getfield 20, [9, 15, 3, 1627]), (.sipush 202, []), (.iload_n 2, []), (.iadd, []), (.iaload, []), (.invokevirtual 299, [0, 265, 1, 9, 0, 0, 1976]), (.aload_n 0, []), (.getfield 321, [9, 25, 0, 1637]), (.if_icmp .ne 5, [1]), (.iconst 0, []), (.ireturn, [])], 0),
  ([(.aload_n 0, []), (.getfield 324, [9, 24, 1, 1636]), (.ifCond .eq 22, [4]), (.aload_n 0, []), (.getfield 20, [9, 15, 3, 1627]), (.sipush 190, []), (.iload_n 2, []), (.iadd, []), (.iaload, []), (.ifCond .ne 7, [2]), (.iconst 1, []), (.goto 4, [3])], 0),
  ([(.iconst 0, [])], 3),
  ([(.ireturn, [])], 0),
  ([(.aload_n 0, []), (.iload_n 1, []), (.iconst 3, []), (.invokevirtual 284, [0, 255, 2, 9, 0, 0, 1936]), (.ifCond .ne 38, [6]), (.aload_n 0, []), (.iload_n 1, []), (.iload_n 2, []), (.invokevirtual 302, [0, 266, 2, 9, 0, 0, 1980]), (.ifCond .eq 25, [5]), (.aload_n 0, []), (.getfield 26, [9, 17, 3, 1629]), (.iconst 0, []), (.iaload, []), (.aload_n 0, []), (.iload_n 1, []), (.iload_n 2, []), (.invokevirtual 302, [0, 266, 2, 9, 0, 0, 1980]), (.isub, []), (.aload_n 0, []), (.getfield 20, [9, 15, 3, 1627]), (.iconst 1, []), (.iaload, []), (.if_icmp .lt 7, [6])], 5),
  ([(.iconst 1, []), (.goto 4, [7])], 0),
  ([(.iconst 0, [])], 7),
  ([(.ireturn, [])], 0)])
def md_Model_best : gD := (yX10_best, cX10_best, 2, (some .int), 2, (0, 0), [0, 18, 43, 49], [
  ([(.aload_n 0, []), (.invokevirtual 177, [0, 213, 0, 9, 0, 0, 1748]), (.aload_n 0, []), (.iload_n 1, []), (.invokevirtual 290, [0, 254, 1, 9, 0, 0, 1932]), (.ifCond .ne 9, [1]), (.aload_n 0, []), (.iconst 1, []), (.invokevirtual 180, [0, 215, 1, 9, 0, 0, 1755]), (.ireturn, [])], 0),
  ([(.aload_n 0, []), (.aload_n 0, []), (.iload_n 1, []), (.iconst 4, []), (.invokevirtual 190, [0, 248, 2, 9, 0, 0, 1908]), (.iconst 0, []), (.invokevirtual 353, [0, 274, 2, 9, 0, 0, 2012]), (.aload_n 0, []), (.getfield 41, [9, 30, 3, 1642]), (.iload_n 1, []), (.iaload, []), (.ifCond .ge 8, [2]), (.bipush (-2), []), (.goto 9, [3])], 0),
  ([(.aload_n 0, []), (.getfield 41, [9, 30, 3, 1642]), (.iload_n 1, []), (.iaload, [])], 3),
  ([(.ireturn, [])], 0)])
def md_Model_bestChurch : gD := (yX10_bestChurch, cX10_bestChurch, 2, (some .int), 2, (0, 0), [0, 18], [
  ([(.aload_n 0, []), (.invokevirtual 177, [0, 213, 0, 9, 0, 0, 1748]), (.aload_n 0, []), (.iload_n 1, []), (.invokevirtual 315, [0, 271, 1, 9, 0, 0, 2000]), (.ifCond .ne 9, [1]), (.aload_n 0, []), (.iconst 1, []), (.invokevirtual 180, [0, 215, 1, 9, 0, 0, 1755]), (.ireturn, [])], 0),
  ([(.aload_n 0, []), (.iload_n 1, []), (.iconst 0, []), (.invokevirtual 353, [0, 274, 2, 9, 0, 0, 2012]), (.aload_n 0, []), (.getfield 331, [9, 27, 0, 1639]), (.ireturn, [])], 0)])
def md_Model_bestWorth : gD := (yX10_bestWorth, cX10_bestWorth, 2, (some .int), 2, (0, 0), [0, 18], [
  ([(.aload_n 0, []), (.invokevirtual 177, [0, 213, 0, 9, 0, 0, 1748]), (.aload_n 0, []), (.iload_n 1, []), (.invokevirtual 315, [0, 271, 1, 9, 0, 0, 2000]), (.ifCond .ne 9, [1]), (.aload_n 0, []), (.iconst 1, []), (.invokevirtual 180, [0, 215, 1, 9, 0, 0, 1755]), (.ireturn, [])], 0),
  ([(.aload_n 0, []), (.iload_n 1, []), (.iconst 0, []), (.invokevirtual 353, [0, 274, 2, 9, 0, 0, 2012]), (.aload_n 0, []), (.getfield 350, [9, 29, 0, 1641]), (.ireturn, [])], 0)])
def md_Model_swap : gD := (yX10_swap, cX10_swap, 7, (some .int), 2, (0, 0), [0, 18, 26, 43, 97, 171, 183, 189, 195], [
  ([(.aload_n 0, []), (.invokevirtual 177, [0, 213, 0, 9, 0, 0, 1748]), (.aload_n 0, []), (.iload_n 1, []), (.invokevirtual 315, [0, 271, 1, 9, 0, 0, 2000]), (.ifCond .ne 9, [1]), (.aload_n 0, []), (.iconst 1, []), (.invokevirtual 180, [0, 215, 1, 9, 0, 0, 1755]), (.ireturn, [])], 0),
  ([(.bipush (-2), []), (.istore_n 2, []), (.iconst 0, []), (.istore_n 3, []), (.iconst 0, []), (.istore 4, [])], 2),
  ([(.iload 4, []), (.aload_n 0, []), (.getfield 20, [9, 15, 3, 1627]), (.iconst 5, []), (.iaload, []), (.if_icmp .ge 161, [8]), (.iload 4, []), (.iconst 1, []), (.iadd, []), (.istore 5, [])], 3),
  ([(.iload 5, []), (.aload_n 0, []), (.getfield 20, [9, 15, 3, 1627]), (.iconst 5, []), (.iaload, []), (.if_icmp .ge 138, [7]), (.aload_n 0, []), (.iload 4, []), (.iconst 4, []), (.invokevirtual 190, [0, 248, 2, 9, 0, 0, 1908]), (.iload_n 1, []), (.if_icmp .ne 121, [6]), (.aload_n 0, []), (.iload 5, []), (.iconst 4, []), (.invokevirtual 190, [0, 248, 2, 9, 0, 0, 1908]), (.iload_n 1, []), (.if_icmp .ne 110, [6]), (.aload_n 0, []), (.iload 4, []), (.invokevirtual 296, [0, 260, 1, 9, 0, 0, 1956]), (.ifCond .lt 101, [6]), (.aload_n 0, []), (.iload 5, []), (.invokevirtual 296, [0, 260, 1, 9, 0, 0, 1956]), (.ifCond .ge 6, [4]), (.goto 89, [6])], 0),
  ([(.aload_n 0, []), (.iload 4, []), (.aload_n 0, []), (.iload 5, []), (.invokevirtual 296, [0, 260, 1, 9, 0, 0, 1956]), (.invokevirtual 318, [0, 272, 2, 9, 0, 0, 2004]), (.aload_n 0, []), (.iload 5, []), (.aload_n 0, []), (.iload 4, []), (.invokevirtual 296, [0, 260, 1, 9, 0, 0, 1956]), (.invokevirtual 318, [0, 272, 2, 9, 0, 0, 2004]), (.iadd, []), (.aload_n 0, []), (.iload 4, []), (.aload_n 0, []), (.iload 4, []), (.invokevirtual 296, [0, 260, 1, 9, 0, 0, 1956]), (.invokevirtual 318, [0, 272, 2, 9, 0, 0, 2004]), (.isub, []), (.aload_n 0, []), (.iload 5, []), (.aload_n 0, []), (.iload 5, []), (.invokevirtual 296, [0, 260, 1, 9, 0, 0, 1956]), (.invokevirtual 318, [0, 272, 2, 9, 0, 0, 2004]), (.isub, []), (.istore 6, []), (.iload 6, []), (.iload_n 3, []), (.if_icmp .le 30, [6]), (.aload_n 0, []), (.iload_n 1, []), (.iload 4, []), (.iload 5, []), (.invokevirtual 357, [0, 283, 3, 9, 0, 0, 2049]), (.ifCond .ne 6, [5]), (.goto 15, [6])], 0),
  ([(.bipush 100, []), (.iload 4, []), (.imul, []), (.iload 5, []), (.iadd, []), (.istore_n 2, []), (.iload 6, []), (.istore_n 3, [])], 6),
  ([(.iinc 5 1, []), (.goto (-143), [3])], 0),
  ([(.iinc 4 1, []), (.goto (-166), [2])], 0),
  ([(.iload_n 2, []), (.ireturn, [])], 0)])
def md_Model_isRightSwapped : gD := (yX10_isRightSwapped, cX10_isRightSwapped, 6, (some .boolean), 4, (0, 0), [0, 32, 69, 73, 74, 82], [
  ([(.aload_n 0, []), (.invokevirtual 305, [0, 263, 0, 9, 0, 0, 1968]), (.aload_n 0, []), (.getfield 38, [9, 23, 3, 1635]), (.iload_n 2, []), (.aload_n 0, []), (.iload_n 3, []), (.invokevirtual 296, [0, 260, 1, 9, 0, 0, 1956]), (.iastore, []), (.aload_n 0, []), (.getfield 38, [9, 23, 3, 1635]), (.iload_n 3, []), (.aload_n 0, []), (.iload_n 2, []), (.invokevirtual 296, [0, 260, 1, 9, 0, 0, 1956]), (.iastore, []), (.iconst 1, []), (.istore 4, []), (.iconst 0, []), (.istore 5, [])], 1),
  ([(.iload 5, []), (.aload_n 0, []), (.getfield 20, [9, 15, 3, 1627]), (.iconst 5, []), (.iaload, []), (.if_icmp .ge 42, [5]), (.iload 4, []), (.ifCond .eq 28, [3]), (.aload_n 0, []), (.iload 5, []), (.iconst 4, []), (.invokevirtual 190, [0, 248, 2, 9, 0, 0, 1908]), (.iload_n 1, []), (.if_icmp .ne 13, [2]), (.aload_n 0, []), (.iload 5, []), (.iconst 0, []), (.invokevirtual 308, [0, 264, 2, 9, 0, 0, 1972]), (.ifCond .ne 7, [3])], 2),
  ([(.iconst 1, []), (.goto 4, [4])], 0),
  ([(.iconst 0, [])], 4),
  ([(.istore 4, []), (.iinc 5 1, []), (.goto (-47), [1])], 0),
  ([(.iload 4, []), (.ireturn, [])], 0)])
def md_Model_turnsOf : gD := (yX10_turnsOf, cX10_turnsOf, 2, (some .int), 2, (0, 0), [0, 21, 26], [
  ([(.aload_n 0, []), (.invokevirtual 177, [0, 213, 0, 9, 0, 0, 1748]), (.aload_n 0, []), (.iload_n 1, []), (.invokevirtual 290, [0, 254, 1, 9, 0, 0, 1932]), (.ifCond .eq 12, [1]), (.aload_n 0, []), (.iload_n 1, []), (.iconst 1, []), (.invokevirtual 284, [0, 255, 2, 9, 0, 0, 1936]), (.goto 8, [2])], 0),
  ([(.aload_n 0, []), (.iconst 1, []), (.invokevirtual 180, [0, 215, 1, 9, 0, 0, 1755])], 2),
  ([(.ireturn, [])], 0)])
def md_Model_ago : gD := (yX10_ago, cX10_ago, 3, (some .int), 3, (0, 0), [0, 20, 26, 40, 55], [
  ([(.aload_n 0, []), (.invokevirtual 177, [0, 213, 0, 9, 0, 0, 1748]), (.aload_n 0, []), (.iload_n 1, []), (.invokevirtual 290, [0, 254, 1, 9, 0, 0, 1932]), (.ifCond .eq 11, [1]), (.aload_n 0, []), (.iload_n 2, []), (.invokevirtual 293, [0, 257, 1, 9, 0, 0, 1944]), (.ifCond .ne 9, [2])], 1),
  ([(.aload_n 0, []), (.iconst 1, []), (.invokevirtual 180, [0, 215, 1, 9, 0, 0, 1755]), (.ireturn, [])], 0),
  ([(.aload_n 0, []), (.iload_n 1, []), (.iload_n 2, []), (.invokevirtual 302, [0, 266, 2, 9, 0, 0, 1980]), (.ifCond .ne 8, [3]), (.bipush (-2), []), (.goto 18, [4])], 0),
  ([(.aload_n 0, []), (.getfield 26, [9, 17, 3, 1629]), (.iconst 0, []), (.iaload, []), (.aload_n 0, []), (.iload_n 1, []), (.iload_n 2, []), (.invokevirtual 302, [0, 266, 2, 9, 0, 0, 1980]), (.isub, []), (.iconst 1, []), (.iadd, [])], 4),
  ([(.ireturn, [])], 0)])
def md_Model_slept : gD := (yX10_slept, cX10_slept, 2, (some .int), 2, (0, 0), [0, 20, 25], [
  ([(.aload_n 0, []), (.invokevirtual 177, [0, 213, 0, 9, 0, 0, 1748]), (.aload_n 0, []), (.iload_n 1, []), (.invokevirtual 290, [0, 254, 1, 9, 0, 0, 1932]), (.ifCond .eq 11, [1]), (.aload_n 0, []), (.iload_n 1, []), (.invokevirtual 360, [0, 287, 1, 9, 0, 0, 2065]), (.goto 8, [2])], 0),
  ([(.aload_n 0, []), (.iconst 1, []), (.invokevirtual 180, [0, 215, 1, 9, 0, 0, 1755])], 2),
  ([(.ireturn, [])], 0)])
def md_Model_sleptOf : gD := (yX10_sleptOf, cX10_sleptOf, 4, (some .int), 2, (0, 0), [0, 4, 40, 41, 49], [
  ([(.iconst 0, []), (.istore_n 2, []), (.iconst 0, []), (.istore_n 3, [])], 1),
  ([(.iload_n 3, []), (.aload_n 0, []), (.getfield 20, [9, 15, 3, 1627]), (.bipush 11, []), (.iaload, []), (.if_icmp .ge 37, [4]), (.iload_n 2, []), (.aload_n 0, []), (.iload_n 1, []), (.iload_n 3, []), (.invokevirtual 302, [0, 266, 2, 9, 0, 0, 1980]), (.ifCond .le 18, [2]), (.iconst 1, []), (.aload_n 0, []), (.getfield 20, [9, 15, 3, 1627]), (.sipush 202, []), (.iload_n 3, []), (.iadd, []), (.iaload, []), (.ishl, []), (.goto 4, [3])], 0),
  ([(.iconst 0, [])], 3),
  ([(.ior, []), (.istore_n 2, []), (.iinc 3 1, []), (.goto (-42), [1])], 0),
  ([(.iload_n 2, []), (.ireturn, [])], 0)])
def md_Model_knows : gD := (yX10_knows, cX10_knows, 2, (some .int), 2, (0, 0), [0, 21, 26], [
  ([(.aload_n 0, []), (.invokevirtual 177, [0, 213, 0, 9, 0, 0, 1748]), (.aload_n 0, []), (.iload_n 1, []), (.invokevirtual 290, [0, 254, 1, 9, 0, 0, 1932]), (.ifCond .eq 12, [1]), (.aload_n 0, []), (.iload_n 1, []), (.iconst 2, []), (.invokevirtual 284, [0, 255, 2, 9, 0, 0, 1936]), (.goto 8, [2])], 0),
  ([(.aload_n 0, []), (.iconst 1, []), (.invokevirtual 180, [0, 215, 1, 9, 0, 0, 1755])], 2),
  ([(.ireturn, [])], 0)])
def md_Model_leaked : gD := (yX10_leaked, cX10_leaked, 2, (some .int), 2, (0, 0), [0, 20, 25], [
  ([(.aload_n 0, []), (.invokevirtual 177, [0, 213, 0, 9, 0, 0, 1748]), (.aload_n 0, []), (.iload_n 1, []), (.invokevirtual 287, [0, 252, 1, 9, 0, 0, 1924]), (.ifCond .eq 11, [1]), (.aload_n 0, []), (.iload_n 1, []), (.invokevirtual 363, [0, 290, 1, 9, 0, 0, 2077]), (.goto 8, [2])], 0),
  ([(.aload_n 0, []), (.iconst 1, []), (.invokevirtual 180, [0, 215, 1, 9, 0, 0, 1755])], 2),
  ([(.ireturn, [])], 0)])
def md_Model_leakedOf : gD := (yX10_leakedOf, cX10_leakedOf, 4, (some .int), 2, (0, 0), [0, 4, 46, 47, 55], [
  ([(.iconst 0, []), (.istore_n 2, []), (.iconst 0, []), (.istore_n 3, [])], 1),
  ([(.iload_n 3, []), (.aload_n 0, []), (.getfield 20, [9, 15, 3, 1627]), (.iconst 5, []), (.iaload, []), (.if_icmp .ge 44, [4]), (.iload_n 2, []), (.aload_n 0, []), (.iload_n 3, []), (.iconst 4, []), (.invokevirtual 190, [0, 248, 2, 9, 0, 0, 1908]), (.aload_n 0, []), (.iload_n 1, []), (.invokevirtual 299, [0, 265, 1, 9, 0, 0, 1976]), (.if_icmp .eq 20, [2]), (.aload_n 0, []), (.iload_n 3, []), (.iconst 2, []), (.invokevirtual 284, [0, 255, 2, 9, 0, 0, 1936]), (.iload_n 1, []), (.invokestatic 274, [1, 239, 2, 0, 0, 1874]), (.ifCond .eq 7, [2]), (.iconst 1, []), (.goto 4, [3])], 0),
  ([(.iconst 0, [])], 3),
  ([(.iadd, []), (.istore_n 2, []), (.iinc 3 1, []), (.goto (-48), [1])], 0),
  ([(.iload_n 2, []), (.ireturn, [])], 0)])
def md_Model_guests : gD := (yX10_guests, cX10_guests, 4, (some .int), 2, (0, 0), [0, 18, 22, 51, 52, 60], [
  ([(.aload_n 0, []), (.invokevirtual 177, [0, 213, 0, 9, 0, 0, 1748]), (.aload_n 0, []), (.iload_n 1, []), (.invokevirtual 287, [0, 252, 1, 9, 0, 0, 1924]), (.ifCond .ne 9, [1]), (.aload_n 0, []), (.iconst 1, []), (.invokevirtual 180, [0, 215, 1, 9, 0, 0, 1755]), (.ireturn, [])], 0),
  ([(.iconst 0, []), (.istore_n 2, []), (.iconst 0, []), (.istore_n 3, [])], 2),
  ([(.iload_n 3, []), (.aload_n 0, []), (.getfield 20, [9, 15, 3, 1627]), (.iconst 5, []), (.iaload, []), (.if_icmp .ge 31, [5]), (.iload_n 2, []), (.aload_n 0, []), (.iload_n 3, []), (.invokevirtual 360, [0, 287, 1, 9, 0, 0, 2065]), (.iload_n 1, []), (.invokestatic 274, [1, 239, 2, 0, 0, 1874]), (.ifCond .eq 9, [3]), (.iconst 1, []), (.iload_n 3, []), (.ishl, []), (.goto 4, [4])], 0),
  ([(.iconst 0, [])], 4),
  ([(.ior, []), (.istore_n 2, []), (.iinc 3 1, []), (.goto (-35), [2])], 0),
  ([(.iload_n 2, []), (.ireturn, [])], 0)])
def md_Model_together : gD := (yX10_together, cX10_together, 3, (some .int), 3, (0, 0), [0, 43, 48], [
  ([(.aload_n 0, []), (.invokevirtual 177, [0, 213, 0, 9, 0, 0, 1748]), (.aload_n 0, []), (.iload_n 1, []), (.invokevirtual 290, [0, 254, 1, 9, 0, 0, 1932]), (.ifCond .eq 34, [1]), (.aload_n 0, []), (.iload_n 2, []), (.invokevirtual 290, [0, 254, 1, 9, 0, 0, 1932]), (.ifCond .eq 26, [1]), (.iload_n 1, []), (.iload_n 2, []), (.if_icmp .eq 21, [1]), (.aload_n 0, []), (.getfield 26, [9, 17, 3, 1629]), (.sipush 162, []), (.bipush 10, []), (.iload_n 1, []), (.imul, []), (.iadd, []), (.iload_n 2, []), (.iadd, []), (.iaload, []), (.goto 8, [2])], 0),
  ([(.aload_n 0, []), (.iconst 1, []), (.invokevirtual 180, [0, 215, 1, 9, 0, 0, 1755])], 2),
  ([(.ireturn, [])], 0)])
def md_Model_fair : gD := (yX10_fair, cX10_fair, 5, (some .int), 2, (0, 0), [0, 18, 27, 52, 73, 74, 96, 97, 98, 104, 112, 115], [
  ([(.aload_n 0, []), (.invokevirtual 177, [0, 213, 0, 9, 0, 0, 1748]), (.aload_n 0, []), (.iload_n 1, []), (.invokevirtual 315, [0, 271, 1, 9, 0, 0, 2000]), (.ifCond .ne 9, [1]), (.aload_n 0, []), (.iconst 1, []), (.invokevirtual 180, [0, 215, 1, 9, 0, 0, 1755]), (.ireturn, [])], 0),
  ([(.ldc_w 330, [0, 1000000, 2016]), (.istore_n 2, []), (.iconst (-1), []), (.istore_n 3, []), (.iconst 0, []), (.istore 4, [])], 2),
  ([(.iload 4, []), (.aload_n 0, []), (.getfield 20, [9, 15, 3, 1627]), (.iconst 5, []), (.iaload, []), (.if_icmp .ge 69, [9]), (.aload_n 0, []), (.iload 4, []), (.iconst 4, []), (.invokevirtual 190, [0, 248, 2, 9, 0, 0, 1908]), (.iload_n 1, []), (.if_icmp .eq 6, [3]), (.goto 49, [8])], 0),
  ([(.aload_n 0, []), (.iload 4, []), (.iconst 1, []), (.invokevirtual 284, [0, 255, 2, 9, 0, 0, 1936]), (.iload_n 2, []), (.if_icmp .ge 13, [4]), (.aload_n 0, []), (.iload 4, []), (.iconst 1, []), (.invokevirtual 284, [0, 255, 2, 9, 0, 0, 1936]), (.goto 4, [5])], 0),
  ([(.iload_n 2, [])], 5),
  ([(.istore_n 2, []), (.aload_n 0, []), (.iload 4, []), (.iconst 1, []), (.invokevirtual 284, [0, 255, 2, 9, 0, 0, 1936]), (.iload_n 3, []), (.if_icmp .le 13, [6]), (.aload_n 0, []), (.iload 4, []), (.iconst 1, []), (.invokevirtual 284, [0, 255, 2, 9, 0, 0, 1936]), (.goto 4, [7])], 0),
  ([(.iload_n 3, [])], 7),
  ([(.istore_n 3, [])], 8),
  ([(.iinc 4 1, []), (.goto (-74), [2])], 0),
  ([(.iload_n 3, []), (.ifCond .ge 7, [10]), (.iconst 0, []), (.goto 6, [11])], 0),
  ([(.iload_n 3, []), (.iload_n 2, []), (.isub, [])], 11),
  ([(.ireturn, [])], 0)])
def md_Model_peace : gD := (yX10_peace, cX10_peace, 1, (some .int), 1, (0, 0), [0, 22, 26, 31], [
  ([(.aload_n 0, []), (.invokevirtual 177, [0, 213, 0, 9, 0, 0, 1748]), (.aload_n 0, []), (.getfield 193, [9, 14, 1, 1626]), (.ifCond .eq 18, [2]), (.aload_n 0, []), (.invokevirtual 369, [0, 295, 0, 9, 0, 0, 2097]), (.ifCond .eq 7, [1]), (.iconst 1, []), (.goto 12, [3])], 0),
  ([(.iconst 0, []), (.goto 8, [3])], 0),
  ([(.aload_n 0, []), (.iconst 1, []), (.invokevirtual 180, [0, 215, 1, 9, 0, 0, 1755])], 3),
  ([(.ireturn, [])], 0)])
def md_Model_isPeace : gD := (yX10_isPeace, cX10_isPeace, 5, (some .boolean), 1, (0, 0), [0, 4, 19, 50, 51, 59, 85, 91, 98, 99, 106], [
  ([(.iconst 1, []), (.istore_n 1, []), (.iconst 0, []), (.istore_n 2, [])], 1),
  ([(.iload_n 2, []), (.aload_n 0, []), (.getfield 20, [9, 15, 3, 1627]), (.iconst 5, []), (.iaload, []), (.if_icmp .ge 95, [10]), (.iconst 0, []), (.istore_n 3, []), (.iconst 0, []), (.istore 4, [])], 2),
  ([(.iload 4, []), (.aload_n 0, []), (.getfield 20, [9, 15, 3, 1627]), (.iconst 4, []), (.iaload, []), (.if_icmp .ge 32, [5]), (.iload_n 3, []), (.aload_n 0, []), (.iload 4, []), (.invokevirtual 299, [0, 265, 1, 9, 0, 0, 1976]), (.aload_n 0, []), (.iload_n 2, []), (.iconst 4, []), (.invokevirtual 190, [0, 248, 2, 9, 0, 0, 1908]), (.if_icmp .eq 7, [3]), (.iconst 1, []), (.goto 4, [4])], 0),
  ([(.iconst 0, [])], 4),
  ([(.iadd, []), (.istore_n 3, []), (.iinc 4 1, []), (.goto (-37), [2])], 0),
  ([(.iload_n 1, []), (.ifCond .eq 38, [8]), (.aload_n 0, []), (.iload_n 2, []), (.invokevirtual 360, [0, 287, 1, 9, 0, 0, 2065]), (.invokestatic 366, [1, 296, 1, 0, 0, 2101]), (.iload_n 3, []), (.aload_n 0, []), (.getfield 20, [9, 15, 3, 1627]), (.iconst 0, []), (.iaload, []), (.if_icmp .ge 7, [6]), (.iload_n 3, []), (.goto 9, [7])], 0),
  ([(.aload_n 0, []), (.getfield 20, [9, 15, 3, 1627]), (.iconst 0, []), (.iaload, [])], 7),
  ([(.if_icmp .lt 7, [8]), (.iconst 1, []), (.goto 4, [9])], 0),
  ([(.iconst 0, [])], 9),
  ([(.istore_n 1, []), (.iinc 2 1, []), (.goto (-99), [1])], 0),
  ([(.iload_n 1, []), (.ireturn, [])], 0)])
def md_Model_ones : gD := (yX10_ones, cX10_ones, 3, (some .int), 1, (0, 0), [0, 4, 24], [
  ([(.iconst 0, []), (.istore_n 1, []), (.iconst 0, []), (.istore_n 2, [])], 1),
  ([(.iload_n 2, []), (.bipush 10, []), (.if_icmp .ge 17, [2]), (.iload_n 1, []), (.iload_n 0, []), (.iload_n 2, []), (.ishr, []), (.iconst 1, []), (.iand, []), (.iadd, []), (.istore_n 1, []), (.iinc 2 1, []), (.goto (-17), [1])], 0),
  ([(.iload_n 1, []), (.ireturn, [])], 0)])
def md_Model_peaceIn : gD := (yX10_peaceIn, cX10_peaceIn, 3, (some .int), 1, (0, 0), [0, 17, 23, 46, 63, 65], [
  ([(.aload_n 0, []), (.invokevirtual 177, [0, 213, 0, 9, 0, 0, 1748]), (.aload_n 0, []), (.getfield 193, [9, 14, 1, 1626]), (.ifCond .ne 9, [1]), (.aload_n 0, []), (.iconst 1, []), (.invokevirtual 180, [0, 215, 1, 9, 0, 0, 1755]), (.ireturn, [])], 0),
  ([(.aload_n 0, []), (.invokevirtual 382, [0, 298, 0, 9, 0, 0, 2108]), (.iconst 0, []), (.istore_n 1, [])], 2),
  ([(.iload_n 1, []), (.bipush 40, []), (.if_icmp .ge 20, [3]), (.aload_n 0, []), (.invokevirtual 369, [0, 295, 0, 9, 0, 0, 2097]), (.ifCond .ne 13, [3]), (.aload_n 0, []), (.invokevirtual 385, [0, 299, 0, 9, 0, 0, 2112]), (.iinc 1 1, []), (.goto (-20), [2])], 0),
  ([(.aload_n 0, []), (.invokevirtual 369, [0, 295, 0, 9, 0, 0, 2097]), (.istore_n 2, []), (.aload_n 0, []), (.invokevirtual 388, [0, 303, 0, 9, 0, 0, 2129]), (.iload_n 2, []), (.ifCond .eq 7, [4]), (.iload_n 1, []), (.goto 5, [5])], 0),
  ([(.bipush (-2), [])], 5),
  ([(.ireturn, [])], 0)])
def md_Model_save : gD := (yX10_save, cX10_save, 1, none, 1, (0, 0), [0], [
  ([(.aload_n 0, []), (.getfield 26, [9, 17, 3, 1629]), (.iconst 0, []), (.aload_n 0, []), (.getfield 29, [9, 18, 3, 1630]), (.iconst 0, []), (.sipush 262, []), (.invokestatic 186, [1, 247, 5, 0, 0, 1905]), (.return_, [])], 0)])
def md_Model_bestNight : gD := (yX10_bestNight, cX10_bestNight, 1, none, 1, (0, 0), [0], [
  ([(.aload_n 0, []), (.iconst 0, []), (.invokevirtual 376, [0, 300, 1, 9, 0, 0, 2116]), (.aload_n 0, []), (.iconst 1, []), (.invokevirtual 376, [0, 300, 1, 9, 0, 0, 2116]), (.aload_n 0, []), (.invokevirtual 379, [0, 301, 0, 9, 0, 0, 2120]), (.return_, [])], 0)])
def md_Model_layBest : gD := (yX10_layBest, cX10_layBest, 3, none, 2, (0, 0), [0, 8, 48, 54], [
  ([(.aload_n 0, []), (.iload_n 1, []), (.iconst 0, []), (.invokevirtual 353, [0, 274, 2, 9, 0, 0, 2012]), (.iconst 0, []), (.istore_n 2, [])], 1),
  ([(.iload_n 2, []), (.aload_n 0, []), (.getfield 20, [9, 15, 3, 1627]), (.iconst 5, []), (.iaload, []), (.if_icmp .ge 39, [3]), (.aload_n 0, []), (.iload_n 2, []), (.iconst 4, []), (.invokevirtual 190, [0, 248, 2, 9, 0, 0, 1908]), (.iload_n 1, []), (.if_icmp .ne 23, [2]), (.aload_n 0, []), (.getfield 26, [9, 17, 3, 1629]), (.iconst 2, []), (.iconst 4, []), (.iload_n 2, []), (.imul, []), (.iadd, []), (.iconst 0, []), (.iadd, []), (.aload_n 0, []), (.getfield 41, [9, 30, 3, 1642]), (.iload_n 2, []), (.iaload, []), (.iconst 1, []), (.iadd, []), (.iastore, [])], 2),
  ([(.iinc 2 1, []), (.goto (-43), [1])], 0),
  ([(.return_, [])], 0)])
def md_Model_sleep : gD := (yX10_sleep, cX10_sleep, 4, none, 1, (0, 0), [0, 12, 51, 104, 177, 183, 189, 191, 198, 222, 258, 259, 267, 273, 275, 309, 315, 317, 383, 384, 391], [
  ([(.aload_n 0, []), (.getfield 26, [9, 17, 3, 1629]), (.iconst 0, []), (.dup2, []), (.iaload, []), (.iconst 1, []), (.iadd, []), (.iastore, []), (.iconst 0, []), (.istore_n 1, [])], 1),
  ([(.iload_n 1, []), (.aload_n 0, []), (.getfield 20, [9, 15, 3, 1627]), (.iconst 5, []), (.iaload, []), (.if_icmp .ge 170, [6]), (.iconst 2, []), (.iconst 4, []), (.iload_n 1, []), (.imul, []), (.iadd, []), (.istore_n 2, []), (.aload_n 0, []), (.iload_n 1, []), (.invokevirtual 296, [0, 260, 1, 9, 0, 0, 1956]), (.ifCond .ge 18, [2]), (.aload_n 0, []), (.getfield 26, [9, 17, 3, 1629]), (.iload_n 2, []), (.iconst 1, []), (.iadd, []), (.dup2, []), (.iaload, []), (.iconst 1, []), (.iadd, []), (.iastore, []), (.goto 135, [5])], 0),
  ([(.aload_n 0, []), (.getfield 26, [9, 17, 3, 1629]), (.bipush 42, []), (.bipush 12, []), (.iload_n 1, []), (.imul, []), (.iadd, []), (.aload_n 0, []), (.iload_n 1, []), (.invokevirtual 296, [0, 260, 1, 9, 0, 0, 1956]), (.iadd, []), (.aload_n 0, []), (.getfield 26, [9, 17, 3, 1629]), (.iconst 0, []), (.iaload, []), (.iastore, []), (.aload_n 0, []), (.getfield 26, [9, 17, 3, 1629]), (.iload_n 2, []), (.iconst 2, []), (.iadd, []), (.dup2, []), (.iaload, []), (.iconst 1, []), (.aload_n 0, []), (.getfield 20, [9, 15, 3, 1627]), (.sipush 202, []), (.aload_n 0, []), (.iload_n 1, []), (.invokevirtual 296, [0, 260, 1, 9, 0, 0, 1956]), (.iadd, []), (.iaload, []), (.ishl, []), (.ior, []), (.iastore, []), (.iconst 0, []), (.istore_n 3, [])], 3),
  ([(.iload_n 3, []), (.aload_n 0, []), (.getfield 20, [9, 15, 3, 1627]), (.iconst 5, []), (.iaload, []), (.if_icmp .ge 72, [5]), (.iload_n 3, []), (.iload_n 1, []), (.if_icmp .eq 61, [4]), (.aload_n 0, []), (.iload_n 3, []), (.invokevirtual 296, [0, 260, 1, 9, 0, 0, 1956]), (.ifCond .lt 53, [4]), (.aload_n 0, []), (.getfield 20, [9, 15, 3, 1627]), (.sipush 202, []), (.aload_n 0, []), (.iload_n 3, []), (.invokevirtual 296, [0, 260, 1, 9, 0, 0, 1956]), (.iadd, []), (.iaload, []), (.aload_n 0, []), (.getfield 20, [9, 15, 3, 1627]), (.sipush 202, []), (.aload_n 0, []), (.iload_n 1, []), (.invokevirtual 296, [0, 260, 1, 9, 0, 0, 1956]), (.iadd, []), (.iaload, []), (.if_icmp .ne 22, [4]), (.aload_n 0, []), (.getfield 26, [9, 17, 3, 1629]), (.sipush 162, []), (.bipush 10, []), (.iload_n 1, []), (.imul, []), (.iadd, []), (.iload_n 3, []), (.iadd, []), (.dup2, []), (.iaload, []), (.iconst 1, []), (.iadd, []), (.iastore, [])], 4),
  ([(.iinc 3 1, []), (.goto (-76), [3])], 0),
  ([(.iinc 1 1, []), (.goto (-174), [1])], 0),
  ([(.iconst 0, []), (.istore_n 1, [])], 7),
  ([(.iload_n 1, []), (.iconst 2, []), (.if_icmp .ge 122, [16]), (.iconst 0, []), (.istore_n 2, [])], 8),
  ([(.iload_n 2, []), (.aload_n 0, []), (.getfield 20, [9, 15, 3, 1627]), (.iconst 5, []), (.iaload, []), (.if_icmp .ge 68, [13]), (.aload_n 0, []), (.getfield 50, [9, 33, 3, 1645]), (.iload_n 2, []), (.aload_n 0, []), (.iload_n 2, []), (.iconst 2, []), (.invokevirtual 284, [0, 255, 2, 9, 0, 0, 1936]), (.iastore, []), (.iconst 0, []), (.istore_n 3, [])], 9),
  ([(.iload_n 3, []), (.aload_n 0, []), (.getfield 20, [9, 15, 3, 1627]), (.iconst 5, []), (.iaload, []), (.if_icmp .ge 38, [12]), (.aload_n 0, []), (.getfield 50, [9, 33, 3, 1645]), (.iload_n 2, []), (.dup2, []), (.iaload, []), (.aload_n 0, []), (.iload_n 3, []), (.iload_n 2, []), (.iload_n 1, []), (.invokevirtual 372, [0, 302, 3, 9, 0, 0, 2124]), (.ifCond .eq 12, [10]), (.aload_n 0, []), (.iload_n 3, []), (.iconst 2, []), (.invokevirtual 284, [0, 255, 2, 9, 0, 0, 1936]), (.goto 4, [11])], 0),
  ([(.iconst 0, [])], 11),
  ([(.ior, []), (.iastore, []), (.iinc 3 1, []), (.goto (-42), [9])], 0),
  ([(.iinc 2 1, []), (.goto (-72), [8])], 0),
  ([(.iconst 0, []), (.istore_n 2, [])], 14),
  ([(.iload_n 2, []), (.aload_n 0, []), (.getfield 20, [9, 15, 3, 1627]), (.iconst 5, []), (.iaload, []), (.if_icmp .ge 27, [15]), (.aload_n 0, []), (.getfield 26, [9, 17, 3, 1629]), (.iconst 2, []), (.iconst 4, []), (.iload_n 2, []), (.imul, []), (.iadd, []), (.iconst 2, []), (.iadd, []), (.aload_n 0, []), (.getfield 50, [9, 33, 3, 1645]), (.iload_n 2, []), (.iaload, []), (.iastore, []), (.iinc 2 1, []), (.goto (-31), [14])], 0),
  ([(.iinc 1 1, []), (.goto (-121), [7])], 0),
  ([(.iconst 0, []), (.istore_n 1, [])], 17),
  ([(.iload_n 1, []), (.aload_n 0, []), (.getfield 20, [9, 15, 3, 1627]), (.iconst 5, []), (.iaload, []), (.if_icmp .ge 67, [20]), (.aload_n 0, []), (.getfield 26, [9, 17, 3, 1629]), (.iconst 1, []), (.bipush 75, []), (.aload_n 0, []), (.getfield 26, [9, 17, 3, 1629]), (.iconst 1, []), (.iaload, []), (.imul, []), (.bipush 74, []), (.iadd, []), (.ldc_w 375, [0, 65537, 2128]), (.irem, []), (.iastore, []), (.aload_n 0, []), (.getfield 26, [9, 17, 3, 1629]), (.iconst 2, []), (.iconst 4, []), (.iload_n 1, []), (.imul, []), (.iadd, []), (.iconst 3, []), (.iadd, []), (.aload_n 0, []), (.getfield 26, [9, 17, 3, 1629]), (.iconst 1, []), (.iaload, []), (.bipush 100, []), (.irem, []), (.aload_n 0, []), (.getfield 20, [9, 15, 3, 1627]), (.bipush 6, []), (.iaload, []), (.if_icmp .ge 7, [18]), (.iconst 1, []), (.goto 4, [19])], 0),
  ([(.iconst 0, [])], 19),
  ([(.iastore, []), (.iinc 1 1, []), (.goto (-71), [17])], 0),
  ([(.return_, [])], 0)])
def md_Model_doTell : gD := (yX10_doTell, cX10_doTell, 4, (some .boolean), 4, (0, 0), [0, 24, 25, 26, 92, 93], [
  ([(.iload_n 3, []), (.iconst 1, []), (.if_icmp .ne 24, [3]), (.aload_n 0, []), (.iload_n 2, []), (.iconst 1, []), (.invokevirtual 190, [0, 248, 2, 9, 0, 0, 1908]), (.aload_n 0, []), (.iload_n 1, []), (.iconst 1, []), (.invokevirtual 190, [0, 248, 2, 9, 0, 0, 1908]), (.if_icmp .ne 7, [1]), (.iconst 1, []), (.goto 4, [2])], 0),
  ([(.iconst 0, [])], 2),
  ([(.ireturn, [])], 0),
  ([(.aload_n 0, []), (.iload_n 2, []), (.invokevirtual 296, [0, 260, 1, 9, 0, 0, 1956]), (.ifCond .lt 61, [4]), (.aload_n 0, []), (.iload_n 1, []), (.invokevirtual 296, [0, 260, 1, 9, 0, 0, 1956]), (.ifCond .lt 53, [4]), (.aload_n 0, []), (.getfield 20, [9, 15, 3, 1627]), (.sipush 202, []), (.aload_n 0, []), (.iload_n 2, []), (.invokevirtual 296, [0, 260, 1, 9, 0, 0, 1956]), (.iadd, []), (.iaload, []), (.aload_n 0, []), (.getfield 20, [9, 15, 3, 1627]), (.sipush 202, []), (.aload_n 0, []), (.iload_n 1, []), (.invokevirtual 296, [0, 260, 1, 9, 0, 0, 1956]), (.iadd, []), (.iaload, []), (.if_icmp .ne 22, [4]), (.aload_n 0, []), (.iload_n 2, []), (.iconst 3, []), (.invokevirtual 190, [0, 248, 2, 9, 0, 0, 1908]), (.aload_n 0, []), (.iload_n 1, []), (.iconst 3, []), (.invokevirtual 190, [0, 248, 2, 9, 0, 0, 1908]), (.if_icmp .ne 7, [4]), (.iconst 1, []), (.goto 4, [5])], 0),
  ([(.iconst 0, [])], 5),
  ([(.ireturn, [])], 0)])
def md_Model_bringBack : gD := (yX10_bringBack, cX10_bringBack, 1, none, 1, (0, 0), [0], [
  ([(.aload_n 0, []), (.getfield 29, [9, 18, 3, 1630]), (.iconst 0, []), (.aload_n 0, []), (.getfield 26, [9, 17, 3, 1629]), (.iconst 0, []), (.sipush 262, []), (.invokestatic 186, [1, 247, 5, 0, 0, 1905]), (.return_, [])], 0)])
def md_Model_churchIn : gD := (yX10_churchIn, cX10_churchIn, 5, (some .int), 2, (0, 0), [0, 17, 33, 41, 53, 78, 79, 87, 93], [
  ([(.aload_n 0, []), (.invokevirtual 177, [0, 213, 0, 9, 0, 0, 1748]), (.aload_n 0, []), (.getfield 193, [9, 14, 1, 1626]), (.ifCond .ne 9, [1]), (.aload_n 0, []), (.iconst 1, []), (.invokevirtual 180, [0, 215, 1, 9, 0, 0, 1755]), (.ireturn, [])], 0),
  ([(.iload_n 1, []), (.iconst 0, []), (.bipush 40, []), (.invokestatic 162, [1, 214, 3, 0, 0, 1752]), (.ifCond .ne 9, [2]), (.aload_n 0, []), (.iconst 2, []), (.invokevirtual 180, [0, 215, 1, 9, 0, 0, 1755]), (.ireturn, [])], 0),
  ([(.aload_n 0, []), (.invokevirtual 382, [0, 298, 0, 9, 0, 0, 2108]), (.iconst 0, []), (.istore_n 2, []), (.iconst 0, []), (.istore_n 3, [])], 3),
  ([(.iload_n 3, []), (.iload_n 1, []), (.if_icmp .ge 50, [8]), (.aload_n 0, []), (.invokevirtual 385, [0, 299, 0, 9, 0, 0, 2112]), (.iconst 0, []), (.istore 4, [])], 4),
  ([(.iload 4, []), (.aload_n 0, []), (.getfield 20, [9, 15, 3, 1627]), (.iconst 5, []), (.iaload, []), (.if_icmp .ge 26, [7]), (.iload_n 2, []), (.aload_n 0, []), (.iload 4, []), (.invokevirtual 296, [0, 260, 1, 9, 0, 0, 1956]), (.ifCond .ge 7, [5]), (.iconst 1, []), (.goto 4, [6])], 0),
  ([(.iconst 0, [])], 6),
  ([(.iadd, []), (.istore_n 2, []), (.iinc 4 1, []), (.goto (-31), [4])], 0),
  ([(.iinc 3 1, []), (.goto (-49), [3])], 0),
  ([(.aload_n 0, []), (.invokevirtual 388, [0, 303, 0, 9, 0, 0, 2129]), (.iload_n 2, []), (.ireturn, [])], 0)])
def md_Model_knowsIn : gD := (yX10_knowsIn, cX10_knowsIn, 4, (some .int), 3, (0, 0), [0, 18, 34, 40, 55], [
  ([(.aload_n 0, []), (.invokevirtual 177, [0, 213, 0, 9, 0, 0, 1748]), (.aload_n 0, []), (.iload_n 1, []), (.invokevirtual 290, [0, 254, 1, 9, 0, 0, 1932]), (.ifCond .ne 9, [1]), (.aload_n 0, []), (.iconst 1, []), (.invokevirtual 180, [0, 215, 1, 9, 0, 0, 1755]), (.ireturn, [])], 0),
  ([(.iload_n 2, []), (.iconst 0, []), (.bipush 40, []), (.invokestatic 162, [1, 214, 3, 0, 0, 1752]), (.ifCond .ne 9, [2]), (.aload_n 0, []), (.iconst 2, []), (.invokevirtual 180, [0, 215, 1, 9, 0, 0, 1755]), (.ireturn, [])], 0),
  ([(.aload_n 0, []), (.invokevirtual 382, [0, 298, 0, 9, 0, 0, 2108]), (.iconst 0, []), (.istore_n 3, [])], 3),
  ([(.iload_n 3, []), (.iload_n 2, []), (.if_icmp .ge 13, [4]), (.aload_n 0, []), (.invokevirtual 385, [0, 299, 0, 9, 0, 0, 2112]), (.iinc 3 1, []), (.goto (-12), [3])], 0),
  ([(.aload_n 0, []), (.iload_n 1, []), (.iconst 2, []), (.invokevirtual 284, [0, 255, 2, 9, 0, 0, 1936]), (.istore_n 3, []), (.aload_n 0, []), (.invokevirtual 388, [0, 303, 0, 9, 0, 0, 2129]), (.iload_n 3, []), (.ireturn, [])], 0)])
def md_Model_leaksIn : gD := (yX10_leaksIn, cX10_leaksIn, 4, (some .int), 2, (0, 0), [0, 18, 24, 48, 60, 61, 74, 76], [
  ([(.aload_n 0, []), (.invokevirtual 177, [0, 213, 0, 9, 0, 0, 1748]), (.aload_n 0, []), (.iload_n 1, []), (.invokevirtual 287, [0, 252, 1, 9, 0, 0, 1924]), (.ifCond .ne 9, [1]), (.aload_n 0, []), (.iconst 1, []), (.invokevirtual 180, [0, 215, 1, 9, 0, 0, 1755]), (.ireturn, [])], 0),
  ([(.aload_n 0, []), (.invokevirtual 382, [0, 298, 0, 9, 0, 0, 2108]), (.iconst 0, []), (.istore_n 2, [])], 2),
  ([(.iload_n 2, []), (.bipush 40, []), (.if_icmp .ge 21, [3]), (.aload_n 0, []), (.iload_n 1, []), (.invokevirtual 363, [0, 290, 1, 9, 0, 0, 2077]), (.ifCond .ne 13, [3]), (.aload_n 0, []), (.invokevirtual 385, [0, 299, 0, 9, 0, 0, 2112]), (.iinc 2 1, []), (.goto (-21), [2])], 0),
  ([(.aload_n 0, []), (.iload_n 1, []), (.invokevirtual 363, [0, 290, 1, 9, 0, 0, 2077]), (.ifCond .le 7, [4]), (.iconst 1, []), (.goto 4, [5])], 0),
  ([(.iconst 0, [])], 5),
  ([(.istore_n 3, []), (.aload_n 0, []), (.invokevirtual 388, [0, 303, 0, 9, 0, 0, 2129]), (.iload_n 3, []), (.ifCond .eq 7, [6]), (.iload_n 2, []), (.goto 5, [7])], 0),
  ([(.bipush (-2), [])], 7),
  ([(.ireturn, [])], 0)])
def md_Model_crossed : gD := (yX10_crossed, cX10_crossed, 1, (some .int), 1, (0, 0), [0, 18, 23], [
  ([(.aload_n 0, []), (.invokevirtual 177, [0, 213, 0, 9, 0, 0, 1748]), (.aload_n 0, []), (.getfield 193, [9, 14, 1, 1626]), (.ifCond .eq 10, [1]), (.aload_n 0, []), (.invokevirtual 397, [0, 308, 0, 9, 0, 0, 2149]), (.goto 8, [2])], 0),
  ([(.aload_n 0, []), (.iconst 1, []), (.invokevirtual 180, [0, 215, 1, 9, 0, 0, 1755])], 2),
  ([(.ireturn, [])], 0)])
def md_Model_crossedOf : gD := (yX10_crossedOf, cX10_crossedOf, 8, (some .int), 1, (0, 0), [0, 8, 31, 37, 45, 66, 72, 142, 148, 215, 216, 231, 233, 241, 252, 253, 260], [
  ([(.aload_n 0, []), (.invokevirtual 394, [0, 309, 0, 9, 0, 0, 2153]), (.iconst 1, []), (.istore_n 1, []), (.iconst 0, []), (.istore_n 2, [])], 1),
  ([(.iload_n 2, []), (.aload_n 0, []), (.getfield 391, [9, 38, 0, 1650]), (.if_icmp .ge 18, [2]), (.iload_n 1, []), (.aload_n 0, []), (.getfield 20, [9, 15, 3, 1627]), (.iconst 2, []), (.iaload, []), (.imul, []), (.istore_n 1, []), (.iinc 2 1, []), (.goto (-20), [1])], 0),
  ([(.ldc_w 330, [0, 1000000, 2016]), (.istore_n 2, []), (.iconst 0, []), (.istore_n 3, [])], 3),
  ([(.iload_n 3, []), (.iload_n 1, []), (.if_icmp .ge 221, [16]), (.iconst 0, []), (.istore 4, [])], 4),
  ([(.iload 4, []), (.bipush 6, []), (.if_icmp .ge 17, [5]), (.aload_n 0, []), (.getfield 62, [9, 37, 3, 1649]), (.iload 4, []), (.iconst 0, []), (.iastore, []), (.iinc 4 1, []), (.goto (-18), [4])], 0),
  ([(.iload_n 3, []), (.istore 4, []), (.iconst 0, []), (.istore 5, [])], 6),
  ([(.iload 5, []), (.aload_n 0, []), (.getfield 391, [9, 38, 0, 1650]), (.if_icmp .ge 64, [7]), (.aload_n 0, []), (.getfield 62, [9, 37, 3, 1649]), (.iconst 2, []), (.iload 4, []), (.aload_n 0, []), (.getfield 20, [9, 15, 3, 1627]), (.iconst 2, []), (.iaload, []), (.irem, []), (.imul, []), (.aload_n 0, []), (.aload_n 0, []), (.getfield 53, [9, 34, 3, 1646]), (.iload 5, []), (.iaload, []), (.iconst 4, []), (.invokevirtual 190, [0, 248, 2, 9, 0, 0, 1908]), (.iadd, []), (.dup2, []), (.iaload, []), (.aload_n 0, []), (.aload_n 0, []), (.getfield 53, [9, 34, 3, 1646]), (.iload 5, []), (.iaload, []), (.iconst 2, []), (.invokevirtual 190, [0, 248, 2, 9, 0, 0, 1908]), (.iadd, []), (.iastore, []), (.iload 4, []), (.aload_n 0, []), (.getfield 20, [9, 15, 3, 1627]), (.iconst 2, []), (.iaload, []), (.idiv, []), (.istore 4, []), (.iinc 5 1, []), (.goto (-67), [6])], 0),
  ([(.iconst 0, []), (.istore 5, []), (.iconst 0, []), (.istore 6, [])], 8),
  ([(.iload 6, []), (.aload_n 0, []), (.getfield 20, [9, 15, 3, 1627]), (.iconst 2, []), (.iaload, []), (.if_icmp .ge 85, [13]), (.aload_n 0, []), (.getfield 62, [9, 37, 3, 1649]), (.iconst 2, []), (.iload 6, []), (.imul, []), (.iaload, []), (.aload_n 0, []), (.getfield 62, [9, 37, 3, 1649]), (.iconst 2, []), (.iload 6, []), (.imul, []), (.iconst 1, []), (.iadd, []), (.iaload, []), (.iadd, []), (.aload_n 0, []), (.getfield 62, [9, 37, 3, 1649]), (.iconst 2, []), (.iload 6, []), (.imul, []), (.iaload, []), (.ifCond .le 26, [9]), (.aload_n 0, []), (.getfield 62, [9, 37, 3, 1649]), (.iconst 2, []), (.iload 6, []), (.imul, []), (.iconst 1, []), (.iadd, []), (.iaload, []), (.ifCond .le 12, [9]), (.aload_n 0, []), (.getfield 20, [9, 15, 3, 1627]), (.iconst 3, []), (.iaload, []), (.goto 4, [10])], 0),
  ([(.iconst 0, [])], 10),
  ([(.iadd, []), (.istore 7, []), (.iload 7, []), (.iload 5, []), (.if_icmp .le 8, [11]), (.iload 7, []), (.goto 5, [12])], 0),
  ([(.iload 5, [])], 12),
  ([(.istore 5, []), (.iinc 6 1, []), (.goto (-90), [8])], 0),
  ([(.iload 5, []), (.iload_n 2, []), (.if_icmp .ge 8, [14]), (.iload 5, []), (.goto 4, [15])], 0),
  ([(.iload_n 2, [])], 15),
  ([(.istore_n 2, []), (.iinc 3 1, []), (.goto (-220), [3])], 0),
  ([(.iload_n 2, []), (.ireturn, [])], 0)])
def md_Model_layWalkers : gD := (yX10_layWalkers, cX10_layWalkers, 2, none, 1, (0, 0), [0, 7, 28, 48, 54], [
  ([(.aload_n 0, []), (.iconst 0, []), (.putfield 391, [9, 38, 0, 1650]), (.iconst 0, []), (.istore_n 1, [])], 1),
  ([(.iload_n 1, []), (.aload_n 0, []), (.getfield 20, [9, 15, 3, 1627]), (.iconst 5, []), (.iaload, []), (.if_icmp .ge 40, [4]), (.aload_n 0, []), (.iload_n 1, []), (.invokevirtual 296, [0, 260, 1, 9, 0, 0, 1956]), (.ifCond .ge 6, [2]), (.goto 23, [3])], 0),
  ([(.aload_n 0, []), (.getfield 53, [9, 34, 3, 1646]), (.aload_n 0, []), (.getfield 391, [9, 38, 0, 1650]), (.iload_n 1, []), (.iastore, []), (.aload_n 0, []), (.dup, []), (.getfield 391, [9, 38, 0, 1650]), (.iconst 1, []), (.iadd, []), (.putfield 391, [9, 38, 0, 1650])], 3),
  ([(.iinc 1 1, []), (.goto (-44), [1])], 0),
  ([(.return_, [])], 0)])
def md_Model_bridge : gD := (yX10_bridge, cX10_bridge, 4, (some .int), 3, (0, 0), [0, 18, 35, 36], [
  ([(.aload_n 0, []), (.invokevirtual 177, [0, 213, 0, 9, 0, 0, 1748]), (.aload_n 0, []), (.iload_n 1, []), (.invokevirtual 409, [0, 311, 1, 9, 0, 0, 2161]), (.ifCond .ne 9, [1]), (.aload_n 0, []), (.iconst 1, []), (.invokevirtual 180, [0, 215, 1, 9, 0, 0, 1755]), (.ireturn, [])], 0),
  ([(.aload_n 0, []), (.iload_n 1, []), (.invokevirtual 412, [0, 312, 1, 9, 0, 0, 2165]), (.istore_n 3, []), (.iload_n 2, []), (.ifCond .eq 10, [2]), (.aload_n 0, []), (.getfield 400, [9, 39, 0, 1651]), (.goto 4, [3])], 0),
  ([(.iload_n 3, [])], 3),
  ([(.ireturn, [])], 0)])
def md_Model_isOrder : gD := (yX10_isOrder, cX10_isOrder, 2, (some .boolean), 2, (0, 0), [0, 20, 21], [
  ([(.aload_n 0, []), (.getfield 193, [9, 14, 1, 1626]), (.ifCond .eq 16, [1]), (.iload_n 1, []), (.iconst 0, []), (.iconst 2, []), (.invokestatic 162, [1, 214, 3, 0, 0, 1752]), (.ifCond .eq 7, [1]), (.iconst 1, []), (.goto 4, [2])], 0),
  ([(.iconst 0, [])], 2),
  ([(.ireturn, [])], 0)])
def md_Model_bridgeBy : gD := (yX10_bridgeBy, cX10_bridgeBy, 9, (some .int), 2, (0, 0), [0, 6, 31, 49, 64, 109, 118, 124, 137, 170, 172, 180, 227, 228, 299, 305, 326, 327, 334], [
  ([(.aload_n 0, []), (.invokevirtual 394, [0, 309, 0, 9, 0, 0, 2153]), (.iconst 0, []), (.istore_n 2, [])], 1),
  ([(.iload_n 2, []), (.iconst 3, []), (.if_icmp .ge 23, [2]), (.aload_n 0, []), (.getfield 56, [9, 35, 3, 1647]), (.iload_n 2, []), (.iconst 0, []), (.iastore, []), (.aload_n 0, []), (.getfield 59, [9, 36, 3, 1648]), (.iload_n 2, []), (.iconst (-1), []), (.iastore, []), (.iinc 2 1, []), (.goto (-22), [1])], 0),
  ([(.iconst 0, []), (.istore_n 2, []), (.aload_n 0, []), (.iconst 0, []), (.putfield 400, [9, 39, 0, 1651]), (.aload_n 0, []), (.bipush (-2), []), (.putfield 403, [9, 40, 0, 1652]), (.iconst 0, []), (.istore_n 3, []), (.iconst 0, []), (.istore 4, [])], 3),
  ([(.iload 4, []), (.aload_n 0, []), (.getfield 391, [9, 38, 0, 1650]), (.if_icmp .ge 279, [18]), (.iconst (-1), []), (.istore 5, []), (.iconst 0, []), (.istore 6, [])], 4),
  ([(.iload 6, []), (.aload_n 0, []), (.getfield 391, [9, 38, 0, 1650]), (.if_icmp .ge 54, [7]), (.iload_n 3, []), (.aload_n 0, []), (.getfield 53, [9, 34, 3, 1646]), (.iload 6, []), (.iaload, []), (.invokestatic 274, [1, 239, 2, 0, 0, 1874]), (.ifCond .ne 34, [6]), (.iload 5, []), (.ifCond .lt 20, [5]), (.aload_n 0, []), (.aload_n 0, []), (.getfield 53, [9, 34, 3, 1646]), (.iload 6, []), (.iaload, []), (.iload 5, []), (.iload_n 1, []), (.invokevirtual 406, [0, 313, 3, 9, 0, 0, 2169]), (.ifCond .eq 12, [6])], 5),
  ([(.aload_n 0, []), (.getfield 53, [9, 34, 3, 1646]), (.iload 6, []), (.iaload, []), (.istore 5, [])], 6),
  ([(.iinc 6 1, []), (.goto (-57), [4])], 0),
  ([(.iload_n 3, []), (.iconst 1, []), (.iload 5, []), (.ishl, []), (.ior, []), (.istore_n 3, []), (.iconst 0, []), (.istore 6, []), (.iconst 1, []), (.istore 7, [])], 8),
  ([(.iload 7, []), (.aload_n 0, []), (.getfield 20, [9, 15, 3, 1627]), (.iconst 2, []), (.iaload, []), (.if_icmp .ge 35, [11]), (.aload_n 0, []), (.getfield 56, [9, 35, 3, 1647]), (.iload 7, []), (.iaload, []), (.aload_n 0, []), (.getfield 56, [9, 35, 3, 1647]), (.iload 6, []), (.iaload, []), (.if_icmp .ge 8, [9]), (.iload 7, []), (.goto 5, [10])], 0),
  ([(.iload 6, [])], 10),
  ([(.istore 6, []), (.iinc 7 1, []), (.goto (-40), [8])], 0),
  ([(.aload_n 0, []), (.iload 5, []), (.iconst 4, []), (.invokevirtual 190, [0, 248, 2, 9, 0, 0, 1908]), (.istore 7, []), (.aload_n 0, []), (.getfield 56, [9, 35, 3, 1647]), (.iload 6, []), (.iaload, []), (.aload_n 0, []), (.getfield 59, [9, 36, 3, 1648]), (.iload 6, []), (.iaload, []), (.ifCond .lt 24, [12]), (.aload_n 0, []), (.getfield 59, [9, 36, 3, 1648]), (.iload 6, []), (.iaload, []), (.iload 7, []), (.if_icmp .eq 12, [12]), (.aload_n 0, []), (.getfield 20, [9, 15, 3, 1627]), (.iconst 3, []), (.iaload, []), (.goto 4, [13])], 0),
  ([(.iconst 0, [])], 13),
  ([(.iadd, []), (.istore 8, []), (.aload_n 0, []), (.dup, []), (.getfield 400, [9, 39, 0, 1651]), (.iload 8, []), (.iadd, []), (.putfield 400, [9, 39, 0, 1651]), (.aload_n 0, []), (.getfield 56, [9, 35, 3, 1647]), (.iload 6, []), (.iload 8, []), (.aload_n 0, []), (.iload 5, []), (.iconst 2, []), (.invokevirtual 190, [0, 248, 2, 9, 0, 0, 1908]), (.iadd, []), (.iastore, []), (.aload_n 0, []), (.getfield 59, [9, 36, 3, 1648]), (.iload 6, []), (.iload 7, []), (.iastore, []), (.aload_n 0, []), (.getfield 56, [9, 35, 3, 1647]), (.iload 6, []), (.iaload, []), (.iload_n 2, []), (.if_icmp .gt 23, [14]), (.aload_n 0, []), (.getfield 56, [9, 35, 3, 1647]), (.iload 6, []), (.iaload, []), (.iload_n 2, []), (.if_icmp .ne 18, [15]), (.iload 5, []), (.aload_n 0, []), (.getfield 403, [9, 40, 0, 1652]), (.if_icmp .ge 9, [15])], 14),
  ([(.aload_n 0, []), (.iload 5, []), (.putfield 403, [9, 40, 0, 1652])], 15),
  ([(.aload_n 0, []), (.getfield 56, [9, 35, 3, 1647]), (.iload 6, []), (.iaload, []), (.iload_n 2, []), (.if_icmp .le 13, [16]), (.aload_n 0, []), (.getfield 56, [9, 35, 3, 1647]), (.iload 6, []), (.iaload, []), (.goto 4, [17])], 0),
  ([(.iload_n 2, [])], 17),
  ([(.istore_n 2, []), (.iinc 4 1, []), (.goto (-282), [3])], 0),
  ([(.iload_n 2, []), (.ireturn, [])], 0)])
def md_Model_comesFirst : gD := (yX10_comesFirst, cX10_comesFirst, 6, (some .boolean), 4, (0, 0), [0, 39, 43, 66, 70, 79, 80], [
  ([(.aload_n 0, []), (.iload_n 1, []), (.iconst 2, []), (.invokevirtual 190, [0, 248, 2, 9, 0, 0, 1908]), (.istore 4, []), (.aload_n 0, []), (.iload_n 2, []), (.iconst 2, []), (.invokevirtual 190, [0, 248, 2, 9, 0, 0, 1908]), (.istore 5, []), (.iload_n 3, []), (.iconst 1, []), (.if_icmp .ne 25, [2]), (.iload 4, []), (.iload 5, []), (.if_icmp .eq 18, [2]), (.iload 4, []), (.iload 5, []), (.if_icmp .ge 7, [1]), (.iconst 1, []), (.goto 44, [6])], 0),
  ([(.iconst 0, []), (.goto 40, [6])], 0),
  ([(.iload_n 3, []), (.iconst 2, []), (.if_icmp .ne 25, [4]), (.iload 4, []), (.iload 5, []), (.if_icmp .eq 18, [4]), (.iload 4, []), (.iload 5, []), (.if_icmp .le 7, [3]), (.iconst 1, []), (.goto 17, [6])], 0),
  ([(.iconst 0, []), (.goto 13, [6])], 0),
  ([(.iload_n 1, []), (.iload_n 2, []), (.if_icmp .ge 7, [5]), (.iconst 1, []), (.goto 4, [6])], 0),
  ([(.iconst 0, [])], 6),
  ([(.ireturn, [])], 0)])
def md_Model_lastOver : gD := (yX10_lastOver, cX10_lastOver, 2, (some .int), 2, (0, 0), [0, 18], [
  ([(.aload_n 0, []), (.invokevirtual 177, [0, 213, 0, 9, 0, 0, 1748]), (.aload_n 0, []), (.iload_n 1, []), (.invokevirtual 409, [0, 311, 1, 9, 0, 0, 2161]), (.ifCond .ne 9, [1]), (.aload_n 0, []), (.iconst 1, []), (.invokevirtual 180, [0, 215, 1, 9, 0, 0, 1755]), (.ireturn, [])], 0),
  ([(.aload_n 0, []), (.iload_n 1, []), (.invokevirtual 412, [0, 312, 1, 9, 0, 0, 2165]), (.pop, []), (.aload_n 0, []), (.getfield 403, [9, 40, 0, 1652]), (.ireturn, [])], 0)])
def md_Model_rests : gD := (yX10_rests, cX10_rests, 7, (some .int), 2, (0, 0), [0, 20, 61, 62, 79, 80, 92, 93], [
  ([(.aload_n 0, []), (.invokevirtual 177, [0, 213, 0, 9, 0, 0, 1748]), (.aload_n 0, []), (.iload_n 1, []), (.invokevirtual 415, [0, 316, 1, 9, 0, 0, 2181]), (.istore_n 2, []), (.iload_n 2, []), (.ifCond .eq 9, [1]), (.aload_n 0, []), (.iload_n 2, []), (.invokevirtual 180, [0, 215, 1, 9, 0, 0, 1755]), (.ireturn, [])], 0),
  ([(.aload_n 0, []), (.iload_n 1, []), (.iconst 0, []), (.invokevirtual 418, [0, 317, 2, 9, 0, 0, 2185]), (.istore_n 3, []), (.aload_n 0, []), (.iload_n 1, []), (.iconst 1, []), (.invokevirtual 418, [0, 317, 2, 9, 0, 0, 2185]), (.istore 4, []), (.aload_n 0, []), (.iload_n 1, []), (.iconst 2, []), (.invokevirtual 418, [0, 317, 2, 9, 0, 0, 2185]), (.istore 5, []), (.aload_n 0, []), (.iload_n 1, []), (.iconst 3, []), (.invokevirtual 418, [0, 317, 2, 9, 0, 0, 2185]), (.istore 6, []), (.iload_n 3, []), (.iload 5, []), (.if_icmp .lt 7, [2]), (.iconst 1, []), (.goto 4, [3])], 0),
  ([(.iconst 0, [])], 3),
  ([(.iload 4, []), (.iload 6, []), (.if_icmp .lt 13, [4]), (.iload 5, []), (.iload_n 3, []), (.if_icmp .lt 7, [4]), (.iconst 2, []), (.goto 4, [5])], 0),
  ([(.iconst 0, [])], 5),
  ([(.iadd, []), (.iload 6, []), (.iload 4, []), (.if_icmp .lt 7, [6]), (.iconst 4, []), (.goto 4, [7])], 0),
  ([(.iconst 0, [])], 7),
  ([(.iadd, []), (.ireturn, [])], 0)])
def md_Model_keepWhy : gD := (yX10_keepWhy, cX10_keepWhy, 2, (some .int), 2, (0, 0), [0, 12, 32, 34], [
  ([(.aload_n 0, []), (.iload_n 1, []), (.invokevirtual 287, [0, 252, 1, 9, 0, 0, 1924]), (.ifCond .ne 7, [1]), (.iconst 1, []), (.goto 25, [3])], 0),
  ([(.aload_n 0, []), (.getfield 20, [9, 15, 3, 1627]), (.sipush 150, []), (.iconst 5, []), (.iload_n 1, []), (.imul, []), (.iadd, []), (.iaload, []), (.iconst 1, []), (.if_icmp .ne 7, [2]), (.iconst 0, []), (.goto 5, [3])], 0),
  ([(.bipush 6, [])], 3),
  ([(.ireturn, [])], 0)])
def md_Model_keepOf : gD := (yX10_keepOf, cX10_keepOf, 3, (some .int), 3, (0, 0), [0], [
  ([(.aload_n 0, []), (.getfield 20, [9, 15, 3, 1627]), (.sipush 150, []), (.iconst 5, []), (.iload_n 1, []), (.imul, []), (.iadd, []), (.iconst 1, []), (.iadd, []), (.iload_n 2, []), (.iadd, []), (.iaload, []), (.ireturn, [])], 0)])
def md_Model_holds : gD := (yX10_holds, cX10_holds, 12, (some .int), 3, (0, 0), [0, 20, 59, 60, 61, 71, 93, 116, 125, 127], [
  ([(.aload_n 0, []), (.invokevirtual 177, [0, 213, 0, 9, 0, 0, 1748]), (.aload_n 0, []), (.iload_n 1, []), (.invokevirtual 415, [0, 316, 1, 9, 0, 0, 2181]), (.istore_n 3, []), (.iload_n 3, []), (.ifCond .eq 9, [1]), (.aload_n 0, []), (.iload_n 3, []), (.invokevirtual 180, [0, 215, 1, 9, 0, 0, 1755]), (.ireturn, [])], 0),
  ([(.aload_n 0, []), (.iload_n 1, []), (.iconst 0, []), (.invokevirtual 418, [0, 317, 2, 9, 0, 0, 2185]), (.istore 4, []), (.aload_n 0, []), (.iload_n 1, []), (.iconst 2, []), (.invokevirtual 418, [0, 317, 2, 9, 0, 0, 2185]), (.istore 5, []), (.aload_n 0, []), (.iload_n 1, []), (.iconst 3, []), (.invokevirtual 418, [0, 317, 2, 9, 0, 0, 2185]), (.istore 6, []), (.iload 5, []), (.iload 4, []), (.if_icmp .gt 13, [4]), (.iload_n 2, []), (.ifCond .eq 7, [2]), (.iconst 1, []), (.goto 4, [3])], 0),
  ([(.iconst 0, [])], 3),
  ([(.ireturn, [])], 0),
  ([(.iload 4, []), (.iload 6, []), (.if_icmp .gt 6, [5]), (.bipush (-2), []), (.ireturn, [])], 0),
  ([(.iload 5, []), (.iload 4, []), (.isub, []), (.istore 7, []), (.iload 5, []), (.iload 6, []), (.isub, []), (.istore 8, []), (.iload 7, []), (.istore 9, []), (.iload 8, []), (.istore 10, [])], 6),
  ([(.iload 10, []), (.ifCond .eq 21, [7]), (.iload 9, []), (.iload 10, []), (.irem, []), (.istore 11, []), (.iload 10, []), (.istore 9, []), (.iload 11, []), (.istore 10, []), (.goto (-20), [6])], 0),
  ([(.iload_n 2, []), (.ifCond .eq 8, [8]), (.iload 8, []), (.goto 5, [9])], 0),
  ([(.iload 7, [])], 9),
  ([(.iload 9, []), (.idiv, []), (.ireturn, [])], 0)])
def md_Model_plays : gD := (yX10_plays, cX10_plays, 6, (some .int), 5, (0, 0), [0, 30, 36, 55, 78, 83], [
  ([(.aload_n 0, []), (.invokevirtual 177, [0, 213, 0, 9, 0, 0, 1748]), (.aload_n 0, []), (.iload_n 1, []), (.invokevirtual 287, [0, 252, 1, 9, 0, 0, 1924]), (.ifCond .eq 21, [1]), (.iload_n 2, []), (.iconst 0, []), (.iconst 4, []), (.invokestatic 162, [1, 214, 3, 0, 0, 1752]), (.ifCond .eq 12, [1]), (.iload_n 3, []), (.iconst 0, []), (.iconst 4, []), (.invokestatic 162, [1, 214, 3, 0, 0, 1752]), (.ifCond .ne 9, [2])], 1),
  ([(.aload_n 0, []), (.iconst 1, []), (.invokevirtual 180, [0, 215, 1, 9, 0, 0, 1755]), (.ireturn, [])], 0),
  ([(.aload_n 0, []), (.iload_n 1, []), (.invokevirtual 415, [0, 316, 1, 9, 0, 0, 2181]), (.istore 5, []), (.iload 5, []), (.ifCond .eq 10, [3]), (.aload_n 0, []), (.iload 5, []), (.invokevirtual 180, [0, 215, 1, 9, 0, 0, 1755]), (.ireturn, [])], 0),
  ([(.iload 4, []), (.iconst 1, []), (.bipush 100, []), (.invokestatic 162, [1, 214, 3, 0, 0, 1752]), (.ifCond .eq 15, [4]), (.aload_n 0, []), (.iload_n 1, []), (.iload_n 2, []), (.iload_n 3, []), (.iload 4, []), (.invokevirtual 425, [0, 320, 4, 9, 0, 0, 2197]), (.goto 8, [5])], 0),
  ([(.aload_n 0, []), (.iconst 2, []), (.invokevirtual 180, [0, 215, 1, 9, 0, 0, 1755])], 5),
  ([(.ireturn, [])], 0)])
def md_Model_playedOf : gD := (yX10_playedOf, cX10_playedOf, 13, (some .int), 5, (0, 0), [0, 18, 67, 71, 80, 81, 109, 110, 126, 127, 135], [
  ([(.iconst 0, []), (.istore 5, []), (.iconst 1, []), (.istore 6, []), (.iconst 1, []), (.istore 7, []), (.iconst 1, []), (.istore 8, []), (.iconst 1, []), (.istore 9, []), (.iconst 0, []), (.istore 10, [])], 1),
  ([(.iload 10, []), (.iload 4, []), (.if_icmp .ge 113, [10]), (.iload_n 2, []), (.iload 10, []), (.iload 7, []), (.iload 9, []), (.invokestatic 421, [1, 321, 4, 0, 0, 2201]), (.istore 11, []), (.iload_n 3, []), (.iload 10, []), (.iload 6, []), (.iload 8, []), (.invokestatic 421, [1, 321, 4, 0, 0, 2201]), (.istore 12, []), (.iload 5, []), (.aload_n 0, []), (.iload_n 1, []), (.iload 11, []), (.ifCond .eq 16, [3]), (.iload 12, []), (.ifCond .eq 7, [2]), (.iconst 0, []), (.goto 17, [5])], 0),
  ([(.iconst 1, []), (.goto 13, [5])], 0),
  ([(.iload 12, []), (.ifCond .eq 7, [4]), (.iconst 2, []), (.goto 4, [5])], 0),
  ([(.iconst 3, [])], 5),
  ([(.invokevirtual 418, [0, 317, 2, 9, 0, 0, 2185]), (.iadd, []), (.istore 5, []), (.iload 11, []), (.istore 6, []), (.iload 12, []), (.istore 7, []), (.iload 8, []), (.ifCond .eq 12, [6]), (.iload 11, []), (.ifCond .eq 7, [6]), (.iconst 1, []), (.goto 4, [7])], 0),
  ([(.iconst 0, [])], 7),
  ([(.istore 8, []), (.iload 9, []), (.ifCond .eq 12, [8]), (.iload 12, []), (.ifCond .eq 7, [8]), (.iconst 1, []), (.goto 4, [9])], 0),
  ([(.iconst 0, [])], 9),
  ([(.istore 9, []), (.iinc 10 1, []), (.goto (-114), [1])], 0),
  ([(.iload 5, []), (.ireturn, [])], 0)])
def md_Model_doesKeep : gD := (yX10_doesKeep, cX10_doesKeep, 4, (some .boolean), 4, (0, 0), [0, 32, 34, 36, 38, 40, 50, 51], [
  ([(.iload_n 0, []), (.tableswitch 39 0 3 #[31, 33, 35, 37], [5, 1, 2, 3, 4])], 0),
  ([(.iconst 1, []), (.ireturn, [])], 0),
  ([(.iconst 0, []), (.ireturn, [])], 0),
  ([(.iload_n 2, []), (.ireturn, [])], 0),
  ([(.iload_n 3, []), (.ireturn, [])], 0),
  ([(.iload_n 1, []), (.iconst 2, []), (.irem, []), (.ifCond .ne 7, [6]), (.iconst 1, []), (.goto 4, [7])], 0),
  ([(.iconst 0, [])], 7),
  ([(.ireturn, [])], 0)])
def md_Model_bestRule : gD := (yX10_bestRule, cX10_bestRule, 9, (some .int), 3, (0, 0), [0, 20, 36, 45, 57, 84, 96, 98, 112, 114, 122], [
  ([(.aload_n 0, []), (.invokevirtual 177, [0, 213, 0, 9, 0, 0, 1748]), (.aload_n 0, []), (.iload_n 1, []), (.invokevirtual 415, [0, 316, 1, 9, 0, 0, 2181]), (.istore_n 3, []), (.iload_n 3, []), (.ifCond .eq 9, [1]), (.aload_n 0, []), (.iload_n 3, []), (.invokevirtual 180, [0, 215, 1, 9, 0, 0, 1755]), (.ireturn, [])], 0),
  ([(.iload_n 2, []), (.iconst 1, []), (.bipush 100, []), (.invokestatic 162, [1, 214, 3, 0, 0, 1752]), (.ifCond .ne 9, [2]), (.aload_n 0, []), (.iconst 2, []), (.invokevirtual 180, [0, 215, 1, 9, 0, 0, 1755]), (.ireturn, [])], 0),
  ([(.iconst (-1), []), (.istore 4, []), (.iconst (-1), []), (.istore 5, []), (.iconst 0, []), (.istore 6, [])], 3),
  ([(.iload 6, []), (.iconst 5, []), (.if_icmp .ge 74, [10]), (.iconst 0, []), (.istore 7, []), (.iconst 0, []), (.istore 8, [])], 4),
  ([(.iload 8, []), (.iconst 5, []), (.if_icmp .ge 24, [5]), (.iload 7, []), (.aload_n 0, []), (.iload_n 1, []), (.iload 6, []), (.iload 8, []), (.iload_n 2, []), (.invokevirtual 425, [0, 320, 4, 9, 0, 0, 2197]), (.iadd, []), (.istore 7, []), (.iinc 8 1, []), (.goto (-24), [4])], 0),
  ([(.iload 7, []), (.iload 5, []), (.if_icmp .le 8, [6]), (.iload 6, []), (.goto 5, [7])], 0),
  ([(.iload 4, [])], 7),
  ([(.istore 4, []), (.iload 7, []), (.iload 5, []), (.if_icmp .le 8, [8]), (.iload 7, []), (.goto 5, [9])], 0),
  ([(.iload 5, [])], 9),
  ([(.istore 5, []), (.iinc 6 1, []), (.goto (-74), [3])], 0),
  ([(.iload 4, []), (.ireturn, [])], 0)])
def md_Model_fits : gD := (yX10_fits, cX10_fits, 2, (some .int), 2, (0, 0), [0, 18], [
  ([(.aload_n 0, []), (.invokevirtual 177, [0, 213, 0, 9, 0, 0, 1748]), (.aload_n 0, []), (.iload_n 1, []), (.invokevirtual 315, [0, 271, 1, 9, 0, 0, 2000]), (.ifCond .ne 9, [1]), (.aload_n 0, []), (.iconst 1, []), (.invokevirtual 180, [0, 215, 1, 9, 0, 0, 1755]), (.ireturn, [])], 0),
  ([(.aload_n 0, []), (.iload_n 1, []), (.iconst 1, []), (.invokevirtual 353, [0, 274, 2, 9, 0, 0, 2012]), (.aload_n 0, []), (.getfield 327, [9, 26, 0, 1638]), (.ireturn, [])], 0)])
def md_Model_could : gD := (yX10_could, cX10_could, 4, (some .int), 2, (0, 0), [0, 18, 33, 59, 60, 68], [
  ([(.aload_n 0, []), (.invokevirtual 177, [0, 213, 0, 9, 0, 0, 1748]), (.aload_n 0, []), (.iload_n 1, []), (.invokevirtual 290, [0, 254, 1, 9, 0, 0, 1932]), (.ifCond .ne 9, [1]), (.aload_n 0, []), (.iconst 1, []), (.invokevirtual 180, [0, 215, 1, 9, 0, 0, 1755]), (.ireturn, [])], 0),
  ([(.aload_n 0, []), (.aload_n 0, []), (.iload_n 1, []), (.iconst 4, []), (.invokevirtual 190, [0, 248, 2, 9, 0, 0, 1908]), (.iconst 1, []), (.invokevirtual 353, [0, 274, 2, 9, 0, 0, 2012]), (.iconst 0, []), (.istore_n 2, []), (.iconst 0, []), (.istore_n 3, [])], 2),
  ([(.iload_n 3, []), (.aload_n 0, []), (.getfield 20, [9, 15, 3, 1627]), (.iconst 4, []), (.iaload, []), (.if_icmp .ge 28, [5]), (.iload_n 2, []), (.aload_n 0, []), (.iload_n 1, []), (.iload_n 3, []), (.invokevirtual 429, [0, 325, 2, 9, 0, 0, 2216]), (.ifCond .le 9, [3]), (.iconst 1, []), (.iload_n 3, []), (.ishl, []), (.goto 4, [4])], 0),
  ([(.iconst 0, [])], 4),
  ([(.ior, []), (.istore_n 2, []), (.iinc 3 1, []), (.goto (-32), [2])], 0),
  ([(.iload_n 2, []), (.ireturn, [])], 0)])
def md_Model_fitsIn : gD := (yX10_fitsIn, cX10_fitsIn, 5, (some .int), 3, (0, 0), [0, 5, 48, 49, 57], [
  ([(.iconst 0, []), (.istore_n 3, []), (.iconst 0, []), (.istore 4, [])], 1),
  ([(.iload 4, []), (.aload_n 0, []), (.getfield 20, [9, 15, 3, 1627]), (.bipush 11, []), (.iaload, []), (.if_icmp .ge 43, [4]), (.iload_n 3, []), (.aload_n 0, []), (.getfield 20, [9, 15, 3, 1627]), (.sipush 202, []), (.iload 4, []), (.iadd, []), (.iaload, []), (.iload_n 2, []), (.if_icmp .ne 18, [2]), (.aload_n 0, []), (.getfield 44, [9, 31, 3, 1643]), (.bipush 13, []), (.iload_n 1, []), (.imul, []), (.iload 4, []), (.iadd, []), (.iaload, []), (.goto 4, [3])], 0),
  ([(.iconst 0, [])], 3),
  ([(.iadd, []), (.istore_n 3, []), (.iinc 4 1, []), (.goto (-49), [1])], 0),
  ([(.iload_n 3, []), (.ireturn, [])], 0)])
def md_Model_surely : gD := (yX10_surely, cX10_surely, 3, (some .int), 2, (0, 0), [0, 18, 31, 63, 69], [
  ([(.aload_n 0, []), (.invokevirtual 177, [0, 213, 0, 9, 0, 0, 1748]), (.aload_n 0, []), (.iload_n 1, []), (.invokevirtual 290, [0, 254, 1, 9, 0, 0, 1932]), (.ifCond .ne 9, [1]), (.aload_n 0, []), (.iconst 1, []), (.invokevirtual 180, [0, 215, 1, 9, 0, 0, 1755]), (.ireturn, [])], 0),
  ([(.aload_n 0, []), (.aload_n 0, []), (.iload_n 1, []), (.iconst 4, []), (.invokevirtual 190, [0, 248, 2, 9, 0, 0, 1908]), (.iconst 1, []), (.invokevirtual 353, [0, 274, 2, 9, 0, 0, 2012]), (.iconst 0, []), (.istore_n 2, [])], 2),
  ([(.iload_n 2, []), (.aload_n 0, []), (.getfield 20, [9, 15, 3, 1627]), (.iconst 4, []), (.iaload, []), (.if_icmp .ge 31, [4]), (.aload_n 0, []), (.getfield 327, [9, 26, 0, 1638]), (.ifCond .le 18, [3]), (.aload_n 0, []), (.iload_n 1, []), (.iload_n 2, []), (.invokevirtual 429, [0, 325, 2, 9, 0, 0, 2216]), (.aload_n 0, []), (.getfield 327, [9, 26, 0, 1638]), (.if_icmp .ne 5, [3]), (.iload_n 2, []), (.ireturn, [])], 0),
  ([(.iinc 2 1, []), (.goto (-35), [2])], 0),
  ([(.bipush (-2), []), (.ireturn, [])], 0)])
def md_Model_fitsWith : gD := (yX10_fitsWith, cX10_fitsWith, 3, (some .int), 3, (0, 0), [0, 26, 32, 62, 63], [
  ([(.aload_n 0, []), (.invokevirtual 177, [0, 213, 0, 9, 0, 0, 1748]), (.aload_n 0, []), (.iload_n 1, []), (.invokevirtual 290, [0, 254, 1, 9, 0, 0, 1932]), (.ifCond .eq 17, [1]), (.iload_n 2, []), (.bipush (-2), []), (.if_icmp .eq 17, [2]), (.aload_n 0, []), (.iload_n 2, []), (.invokevirtual 293, [0, 257, 1, 9, 0, 0, 1944]), (.ifCond .ne 9, [2])], 1),
  ([(.aload_n 0, []), (.iconst 1, []), (.invokevirtual 180, [0, 215, 1, 9, 0, 0, 1755]), (.ireturn, [])], 0),
  ([(.aload_n 0, []), (.aload_n 0, []), (.iload_n 1, []), (.iconst 4, []), (.invokevirtual 190, [0, 248, 2, 9, 0, 0, 1908]), (.iconst 1, []), (.invokevirtual 353, [0, 274, 2, 9, 0, 0, 2012]), (.aload_n 0, []), (.getfield 44, [9, 31, 3, 1643]), (.bipush 13, []), (.iload_n 1, []), (.imul, []), (.iload_n 2, []), (.bipush (-2), []), (.if_icmp .ne 8, [3]), (.bipush 12, []), (.goto 4, [4])], 0),
  ([(.iload_n 2, [])], 4),
  ([(.iadd, []), (.iaload, []), (.ireturn, [])], 0)])
def md_Model_ask : gD := (yX10_ask, cX10_ask, 6, (some .int), 2, (0, 0), [0, 18, 31, 65, 97, 109, 122, 123, 135, 136, 137, 143, 156, 157], [
  ([(.aload_n 0, []), (.invokevirtual 177, [0, 213, 0, 9, 0, 0, 1748]), (.aload_n 0, []), (.iload_n 1, []), (.invokevirtual 315, [0, 271, 1, 9, 0, 0, 2000]), (.ifCond .ne 9, [1]), (.aload_n 0, []), (.iconst 1, []), (.invokevirtual 180, [0, 215, 1, 9, 0, 0, 1755]), (.ireturn, [])], 0),
  ([(.aload_n 0, []), (.iload_n 1, []), (.iconst 1, []), (.invokevirtual 353, [0, 274, 2, 9, 0, 0, 2012]), (.iconst (-1), []), (.istore_n 2, []), (.iconst (-1), []), (.istore_n 3, []), (.iconst 0, []), (.istore 4, [])], 2),
  ([(.iload 4, []), (.aload_n 0, []), (.getfield 20, [9, 15, 3, 1627]), (.bipush 11, []), (.iaload, []), (.if_icmp .ge 103, [11]), (.aload_n 0, []), (.aload_n 0, []), (.getfield 20, [9, 15, 3, 1627]), (.sipush 202, []), (.iload 4, []), (.iadd, []), (.iaload, []), (.invokevirtual 299, [0, 265, 1, 9, 0, 0, 1976]), (.iload_n 1, []), (.if_icmp .ne 6, [3]), (.goto 75, [10])], 0),
  ([(.aload_n 0, []), (.getfield 47, [9, 32, 3, 1644]), (.iload 4, []), (.iaload, []), (.aload_n 0, []), (.getfield 327, [9, 26, 0, 1638]), (.aload_n 0, []), (.getfield 47, [9, 32, 3, 1644]), (.iload 4, []), (.iaload, []), (.isub, []), (.if_icmp .ge 13, [4]), (.aload_n 0, []), (.getfield 47, [9, 32, 3, 1644]), (.iload 4, []), (.iaload, []), (.goto 15, [5])], 0),
  ([(.aload_n 0, []), (.getfield 327, [9, 26, 0, 1638]), (.aload_n 0, []), (.getfield 47, [9, 32, 3, 1644]), (.iload 4, []), (.iaload, []), (.isub, [])], 5),
  ([(.istore 5, []), (.iload 5, []), (.iload_n 3, []), (.if_icmp .le 8, [6]), (.iload 4, []), (.goto 4, [7])], 0),
  ([(.iload_n 2, [])], 7),
  ([(.istore_n 2, []), (.iload 5, []), (.iload_n 3, []), (.if_icmp .le 8, [8]), (.iload 5, []), (.goto 4, [9])], 0),
  ([(.iload_n 3, [])], 9),
  ([(.istore_n 3, [])], 10),
  ([(.iinc 4 1, []), (.goto (-109), [2])], 0),
  ([(.iload_n 2, []), (.ifCond .ge 12, [12]), (.aload_n 0, []), (.bipush 6, []), (.invokevirtual 180, [0, 215, 1, 9, 0, 0, 1755]), (.goto 4, [13])], 0),
  ([(.iload_n 2, [])], 13),
  ([(.ireturn, [])], 0)])
def md_Model_lays : gD := (yX10_lays, cX10_lays, 4, (some .boolean), 3, (0, 0), [0, 26, 32, 42, 45, 62], [
  ([(.aload_n 0, []), (.invokevirtual 177, [0, 213, 0, 9, 0, 0, 1748]), (.aload_n 0, []), (.iload_n 1, []), (.invokevirtual 290, [0, 254, 1, 9, 0, 0, 1932]), (.ifCond .eq 17, [1]), (.iload_n 2, []), (.bipush (-2), []), (.if_icmp .eq 17, [2]), (.aload_n 0, []), (.iload_n 2, []), (.invokevirtual 293, [0, 257, 1, 9, 0, 0, 1944]), (.ifCond .ne 9, [2])], 1),
  ([(.aload_n 0, []), (.iconst 1, []), (.invokevirtual 432, [0, 330, 1, 9, 0, 0, 2236]), (.ireturn, [])], 0),
  ([(.iload_n 2, []), (.bipush (-2), []), (.if_icmp .ne 7, [3]), (.iconst 0, []), (.goto 6, [4])], 0),
  ([(.iload_n 2, []), (.iconst 1, []), (.iadd, [])], 4),
  ([(.istore_n 3, []), (.aload_n 0, []), (.iload_n 1, []), (.iconst 0, []), (.invokevirtual 284, [0, 255, 2, 9, 0, 0, 1936]), (.iload_n 3, []), (.if_icmp .ne 9, [5]), (.aload_n 0, []), (.iconst 5, []), (.invokevirtual 432, [0, 330, 1, 9, 0, 0, 2236]), (.ireturn, [])], 0),
  ([(.aload_n 0, []), (.invokevirtual 435, [0, 331, 0, 9, 0, 0, 2240]), (.aload_n 0, []), (.getfield 26, [9, 17, 3, 1629]), (.iconst 2, []), (.iconst 4, []), (.iload_n 1, []), (.imul, []), (.iadd, []), (.iconst 0, []), (.iadd, []), (.iload_n 3, []), (.iastore, []), (.iconst 1, []), (.ireturn, [])], 0)])
def md_Model_isNot : gD := (yX10_isNot, cX10_isNot, 2, (some .boolean), 2, (0, 0), [0], [
  ([(.aload_n 0, []), (.iload_n 1, []), (.putfield 68, [9, 11, 0, 1623]), (.iconst 0, []), (.ireturn, [])], 0)])
def md_Model_note : gD := (yX10_note, cX10_note, 2, none, 1, (0, 0), [0, 11, 40, 50], [
  ([(.aload_n 0, []), (.getfield 196, [9, 21, 0, 1633]), (.bipush 12, []), (.if_icmp .ne 44, [3]), (.iconst 0, []), (.istore_n 1, [])], 1),
  ([(.iload_n 1, []), (.sipush 2882, []), (.if_icmp .ge 25, [2]), (.aload_n 0, []), (.getfield 32, [9, 19, 3, 1631]), (.iload_n 1, []), (.aload_n 0, []), (.getfield 32, [9, 19, 3, 1631]), (.iload_n 1, []), (.sipush 262, []), (.iadd, []), (.iaload, []), (.iastore, []), (.iinc 1 1, []), (.goto (-26), [1])], 0),
  ([(.aload_n 0, []), (.dup, []), (.getfield 196, [9, 21, 0, 1633]), (.iconst 1, []), (.isub, []), (.putfield 196, [9, 21, 0, 1633])], 3),
  ([(.aload_n 0, []), (.getfield 26, [9, 17, 3, 1629]), (.iconst 0, []), (.aload_n 0, []), (.getfield 32, [9, 19, 3, 1631]), (.sipush 262, []), (.aload_n 0, []), (.getfield 196, [9, 21, 0, 1633]), (.imul, []), (.sipush 262, []), (.invokestatic 186, [1, 247, 5, 0, 0, 1905]), (.aload_n 0, []), (.dup, []), (.getfield 196, [9, 21, 0, 1633]), (.iconst 1, []), (.iadd, []), (.putfield 196, [9, 21, 0, 1633]), (.return_, [])], 0)])
def md_Model_laysBest : gD := (yX10_laysBest, cX10_laysBest, 2, (some .int), 2, (0, 0), [0, 18], [
  ([(.aload_n 0, []), (.invokevirtual 177, [0, 213, 0, 9, 0, 0, 1748]), (.aload_n 0, []), (.iload_n 1, []), (.invokevirtual 315, [0, 271, 1, 9, 0, 0, 2000]), (.ifCond .ne 9, [1]), (.aload_n 0, []), (.iconst 1, []), (.invokevirtual 180, [0, 215, 1, 9, 0, 0, 1755]), (.ireturn, [])], 0),
  ([(.aload_n 0, []), (.invokevirtual 435, [0, 331, 0, 9, 0, 0, 2240]), (.aload_n 0, []), (.iload_n 1, []), (.invokevirtual 376, [0, 300, 1, 9, 0, 0, 2116]), (.aload_n 0, []), (.getfield 331, [9, 27, 0, 1639]), (.ireturn, [])], 0)])
def md_Model_night : gD := (yX10_night, cX10_night, 1, (some .int), 1, (0, 0), [0, 17, 32], [
  ([(.aload_n 0, []), (.invokevirtual 177, [0, 213, 0, 9, 0, 0, 1748]), (.aload_n 0, []), (.getfield 193, [9, 14, 1, 1626]), (.ifCond .ne 9, [1]), (.aload_n 0, []), (.iconst 1, []), (.invokevirtual 180, [0, 215, 1, 9, 0, 0, 1755]), (.ireturn, [])], 0),
  ([(.aload_n 0, []), (.invokevirtual 312, [0, 268, 0, 9, 0, 0, 1988]), (.bipush (-2), []), (.if_icmp .eq 9, [2]), (.aload_n 0, []), (.iconst 5, []), (.invokevirtual 180, [0, 215, 1, 9, 0, 0, 1755]), (.ireturn, [])], 0),
  ([(.aload_n 0, []), (.invokevirtual 435, [0, 331, 0, 9, 0, 0, 2240]), (.aload_n 0, []), (.invokevirtual 379, [0, 301, 0, 9, 0, 0, 2120]), (.aload_n 0, []), (.getfield 26, [9, 17, 3, 1629]), (.iconst 0, []), (.iaload, []), (.ireturn, [])], 0)])
def md_Model_nights : gD := (yX10_nights, cX10_nights, 3, (some .int), 2, (0, 0), [0, 17, 33, 39, 54], [
  ([(.aload_n 0, []), (.invokevirtual 177, [0, 213, 0, 9, 0, 0, 1748]), (.aload_n 0, []), (.getfield 193, [9, 14, 1, 1626]), (.ifCond .ne 9, [1]), (.aload_n 0, []), (.iconst 1, []), (.invokevirtual 180, [0, 215, 1, 9, 0, 0, 1755]), (.ireturn, [])], 0),
  ([(.iload_n 1, []), (.iconst 1, []), (.bipush 40, []), (.invokestatic 162, [1, 214, 3, 0, 0, 1752]), (.ifCond .ne 9, [2]), (.aload_n 0, []), (.iconst 2, []), (.invokevirtual 180, [0, 215, 1, 9, 0, 0, 1755]), (.ireturn, [])], 0),
  ([(.aload_n 0, []), (.invokevirtual 435, [0, 331, 0, 9, 0, 0, 2240]), (.iconst 0, []), (.istore_n 2, [])], 3),
  ([(.iload_n 2, []), (.iload_n 1, []), (.if_icmp .ge 13, [4]), (.aload_n 0, []), (.invokevirtual 385, [0, 299, 0, 9, 0, 0, 2112]), (.iinc 2 1, []), (.goto (-12), [3])], 0),
  ([(.aload_n 0, []), (.getfield 26, [9, 17, 3, 1629]), (.iconst 0, []), (.iaload, []), (.ireturn, [])], 0)])
def md_Model_seed : gD := (yX10_seed, cX10_seed, 2, (some .boolean), 2, (0, 0), [0, 17, 34], [
  ([(.aload_n 0, []), (.invokevirtual 177, [0, 213, 0, 9, 0, 0, 1748]), (.aload_n 0, []), (.getfield 193, [9, 14, 1, 1626]), (.ifCond .ne 9, [1]), (.aload_n 0, []), (.iconst 1, []), (.invokevirtual 432, [0, 330, 1, 9, 0, 0, 2236]), (.ireturn, [])], 0),
  ([(.iload_n 1, []), (.iconst 0, []), (.ldc_w 438, [0, 65536, 2260]), (.invokestatic 162, [1, 214, 3, 0, 0, 1752]), (.ifCond .ne 9, [2]), (.aload_n 0, []), (.iconst 2, []), (.invokevirtual 432, [0, 330, 1, 9, 0, 0, 2236]), (.ireturn, [])], 0),
  ([(.aload_n 0, []), (.getfield 26, [9, 17, 3, 1629]), (.iconst 1, []), (.iload_n 1, []), (.iastore, []), (.iconst 1, []), (.ireturn, [])], 0)])
def md_Model_undo : gD := (yX10_undo, cX10_undo, 1, (some .boolean), 1, (0, 0), [0, 18], [
  ([(.aload_n 0, []), (.invokevirtual 177, [0, 213, 0, 9, 0, 0, 1748]), (.aload_n 0, []), (.getfield 196, [9, 21, 0, 1633]), (.ifCond .ne 10, [1]), (.aload_n 0, []), (.bipush 6, []), (.invokevirtual 432, [0, 330, 1, 9, 0, 0, 2236]), (.ireturn, [])], 0),
  ([(.aload_n 0, []), (.dup, []), (.getfield 196, [9, 21, 0, 1633]), (.iconst 1, []), (.isub, []), (.putfield 196, [9, 21, 0, 1633]), (.aload_n 0, []), (.getfield 32, [9, 19, 3, 1631]), (.sipush 262, []), (.aload_n 0, []), (.getfield 196, [9, 21, 0, 1633]), (.imul, []), (.aload_n 0, []), (.getfield 26, [9, 17, 3, 1629]), (.iconst 0, []), (.sipush 262, []), (.invokestatic 186, [1, 247, 5, 0, 0, 1905]), (.iconst 1, []), (.ireturn, [])], 0)])
def md_Model_image : gD := (yX10_image, cX10_image, 1, (some .int), 1, (0, 0), [0, 17, 31], [
  ([(.aload_n 0, []), (.invokevirtual 177, [0, 213, 0, 9, 0, 0, 1748]), (.aload_n 0, []), (.getfield 193, [9, 14, 1, 1626]), (.ifCond .ne 9, [1]), (.aload_n 0, []), (.iconst 1, []), (.invokevirtual 180, [0, 215, 1, 9, 0, 0, 1755]), (.ireturn, [])], 0),
  ([(.aload_n 0, []), (.getfield 199, [9, 22, 0, 1634]), (.iconst 3, []), (.if_icmp .ne 9, [2]), (.aload_n 0, []), (.iconst 3, []), (.invokevirtual 180, [0, 215, 1, 9, 0, 0, 1755]), (.ireturn, [])], 0),
  ([(.aload_n 0, []), (.getfield 26, [9, 17, 3, 1629]), (.iconst 0, []), (.aload_n 0, []), (.getfield 35, [9, 20, 3, 1632]), (.sipush 262, []), (.aload_n 0, []), (.getfield 199, [9, 22, 0, 1634]), (.imul, []), (.sipush 262, []), (.invokestatic 186, [1, 247, 5, 0, 0, 1905]), (.aload_n 0, []), (.dup, []), (.getfield 199, [9, 22, 0, 1634]), (.iconst 1, []), (.iadd, []), (.putfield 199, [9, 22, 0, 1634]), (.aload_n 0, []), (.getfield 199, [9, 22, 0, 1634]), (.iconst 1, []), (.isub, []), (.ireturn, [])], 0)])
def md_Model_back : gD := (yX10_back, cX10_back, 2, (some .boolean), 2, (0, 0), [0, 24], [
  ([(.aload_n 0, []), (.invokevirtual 177, [0, 213, 0, 9, 0, 0, 1748]), (.iload_n 1, []), (.iconst 0, []), (.aload_n 0, []), (.getfield 199, [9, 22, 0, 1634]), (.iconst 1, []), (.isub, []), (.invokestatic 162, [1, 214, 3, 0, 0, 1752]), (.ifCond .ne 9, [1]), (.aload_n 0, []), (.iconst 1, []), (.invokevirtual 432, [0, 330, 1, 9, 0, 0, 2236]), (.ireturn, [])], 0),
  ([(.aload_n 0, []), (.getfield 35, [9, 20, 3, 1632]), (.sipush 262, []), (.iload_n 1, []), (.imul, []), (.aload_n 0, []), (.getfield 26, [9, 17, 3, 1629]), (.iconst 0, []), (.sipush 262, []), (.invokestatic 186, [1, 247, 5, 0, 0, 1905]), (.aload_n 0, []), (.iconst 0, []), (.putfield 196, [9, 21, 0, 1633]), (.iconst 1, []), (.ireturn, [])], 0)])
def md_Model_led : gD := (yX10_led, cX10_led, 4, (some .int), 2, (0, 0), [0, 4, 32, 44, 47, 53], [
  ([(.iconst 0, []), (.istore_n 2, []), (.iconst 0, []), (.istore_n 3, [])], 1),
  ([(.aload_n 0, []), (.getfield 193, [9, 14, 1, 1626]), (.ifCond .eq 45, [5]), (.iload_n 3, []), (.aload_n 0, []), (.getfield 20, [9, 15, 3, 1627]), (.iconst 5, []), (.iaload, []), (.if_icmp .ge 35, [5]), (.aload_n 0, []), (.iload_n 3, []), (.invokevirtual 296, [0, 260, 1, 9, 0, 0, 1956]), (.ifCond .lt 6, [2]), (.goto 18, [4])], 0),
  ([(.iload_n 2, []), (.iload_n 1, []), (.if_icmp .ne 10, [3]), (.aload_n 0, []), (.iconst 0, []), (.putfield 65, [9, 0, 0, 1612]), (.iload_n 3, []), (.ireturn, [])], 0),
  ([(.iinc 2 1, [])], 4),
  ([(.iinc 3 1, []), (.goto (-46), [1])], 0),
  ([(.aload_n 0, []), (.iconst 1, []), (.putfield 65, [9, 0, 0, 1612]), (.iconst 0, []), (.ireturn, [])], 0)])
def md_Model_size : gD := (yX10_size, cX10_size, 2, (some .int), 2, (0, 0), [0, 16, 37, 38, 39, 108, 115, 122, 129, 136, 143, 151, 158, 166, 174, 181, 188, 193, 198], [
  ([(.aload_n 0, []), (.iconst 0, []), (.putfield 65, [9, 0, 0, 1612]), (.iload_n 1, []), (.bipush 13, []), (.if_icmp .ne 8, [1]), (.aload_n 0, []), (.getfield 71, [9, 2, 0, 1614]), (.ireturn, [])], 0),
  ([(.aload_n 0, []), (.getfield 193, [9, 14, 1, 1626]), (.ifCond .ne 19, [4]), (.iload_n 1, []), (.iconst 0, []), (.bipush 12, []), (.invokestatic 162, [1, 214, 3, 0, 0, 1752]), (.ifCond .eq 7, [2]), (.iconst 0, []), (.goto 4, [3])], 0),
  ([(.iconst (-1), [])], 3),
  ([(.ireturn, [])], 0),
  ([(.iload_n 1, []), (.tableswitch 158 0 12 #[68, 75, 82, 89, 96, 103, 111, 118, 126, 134, 141, 148, 153], [18, 5, 6, 7, 8, 9, 10, 11, 12, 13, 14, 15, 16, 17])], 0),
  ([(.aload_n 0, []), (.getfield 20, [9, 15, 3, 1627]), (.iconst 0, []), (.iaload, []), (.ireturn, [])], 0),
  ([(.aload_n 0, []), (.getfield 20, [9, 15, 3, 1627]), (.iconst 1, []), (.iaload, []), (.ireturn, [])], 0),
  ([(.aload_n 0, []), (.getfield 20, [9, 15, 3, 1627]), (.iconst 2, []), (.iaload, []), (.ireturn, [])], 0),
  ([(.aload_n 0, []), (.getfield 20, [9, 15, 3, 1627]), (.iconst 3, []), (.iaload, []), (.ireturn, [])], 0),
  ([(.aload_n 0, []), (.getfield 20, [9, 15, 3, 1627]), (.iconst 4, []), (.iaload, []), (.ireturn, [])], 0),
  ([(.aload_n 0, []), (.getfield 20, [9, 15, 3, 1627]), (.bipush 11, []), (.iaload, []), (.ireturn, [])], 0),
  ([(.aload_n 0, []), (.getfield 20, [9, 15, 3, 1627]), (.iconst 5, []), (.iaload, []), (.ireturn, [])], 0),
  ([(.aload_n 0, []), (.getfield 20, [9, 15, 3, 1627]), (.bipush 6, []), (.iaload, []), (.ireturn, [])], 0),
  ([(.aload_n 0, []), (.getfield 20, [9, 15, 3, 1627]), (.bipush 10, []), (.iaload, []), (.ireturn, [])], 0),
  ([(.aload_n 0, []), (.getfield 26, [9, 17, 3, 1629]), (.iconst 0, []), (.iaload, []), (.ireturn, [])], 0),
  ([(.aload_n 0, []), (.getfield 26, [9, 17, 3, 1629]), (.iconst 1, []), (.iaload, []), (.ireturn, [])], 0),
  ([(.aload_n 0, []), (.getfield 196, [9, 21, 0, 1633]), (.ireturn, [])], 0),
  ([(.aload_n 0, []), (.getfield 199, [9, 22, 0, 1634]), (.ireturn, [])], 0),
  ([(.iconst (-1), []), (.ireturn, [])], 0)])
def md_Model_trouble : gD := (yX10_trouble, cX10_trouble, 1, (some .int), 1, (0, 0), [0], [
  ([(.aload_n 0, []), (.iconst 0, []), (.putfield 65, [9, 0, 0, 1612]), (.aload_n 0, []), (.getfield 68, [9, 11, 0, 1623]), (.ireturn, [])], 0)])
def md_Arrays_fill : gD := (yJ7_fill_53178, cJ7_fill_53178, 4, none, 2, (0, 0), [0, 5, 20], [
  ([(.iconst 0, []), (.istore_n 2, []), (.aload_n 0, []), (.arraylength, []), (.istore_n 3, [])], 1),
  ([(.iload_n 2, []), (.iload_n 3, []), (.if_icmp .ge 13, [2]), (.aload_n 0, []), (.iload_n 2, []), (.iload_n 1, []), (.iastore, []), (.iinc 2 1, []), (.goto (-12), [1])], 0),
  ([(.return_, [])], 0)])
def md_Integer_bitCount : gD := (yJ6_bitCount_0f7a4, cJ6_bitCount_0f7a4, 1, (some .int), 1, (0, 0), [0], [
  ([(.iload_n 0, []), (.iload_n 0, []), (.iconst 1, []), (.iushr, []), (.ldc_w 265, [0, 1431655765, 820]), (.iand, []), (.isub, []), (.istore_n 0, []), (.iload_n 0, []), (.ldc_w 266, [0, 858993459, 821]), (.iand, []), (.iload_n 0, []), (.iconst 2, []), (.iushr, []), (.ldc_w 266, [0, 858993459, 821]), (.iand, []), (.iadd, []), (.istore_n 0, []), (.iload_n 0, []), (.iload_n 0, []), (.iconst 4, []), (.iushr, []), (.iadd, []), (.ldc_w 267, [0, 252645135, 822]), (.iand, []), (.istore_n 0, []), (.iload_n 0, []), (.iload_n 0, []), (.bipush 8, []), (.iushr, []), (.iadd, []), (.istore_n 0, []), (.iload_n 0, []), (.iload_n 0, []), (.bipush 16, []), (.iushr, []), (.iadd, []), (.istore_n 0, []), (.iload_n 0, []), (.bipush 63, []), (.iand, []), (.ireturn, [])], 0)])
def g_cnt : Nat := 344
def mt (n : Nat) : gD := (bif Nat.blt n 172 then (bif Nat.blt n 86 then (bif Nat.blt n 43 then (bif Nat.blt n 21 then (bif Nat.blt n 10 then (bif Nat.blt n 5 then (bif Nat.blt n 2 then (bif Nat.blt n 1 then md_Bargain_restsOf else md_Bargain_told) else (bif Nat.blt n 3 then md_Bargain_holdsBy else (bif Nat.blt n 4 then md_Bargain_commonDivisor else md_Bargain_isRule))) else (bif Nat.blt n 7 then (bif Nat.blt n 6 then md_Bargain_isLength else md_Bargain_played) else (bif Nat.blt n 8 then md_Bargain_keepsBy else (bif Nat.blt n 9 then md_Bargain_mostByRule else md_Bridge_init)))) else (bif Nat.blt n 15 then (bif Nat.blt n 12 then (bif Nat.blt n 11 then md_Bridge_leastMinutes else md_Bridge_lineUp) else (bif Nat.blt n 13 then md_Bridge_goesAhead else (bif Nat.blt n 14 then md_Bridge_lanesOf else md_Bridge_spread))) else (bif Nat.blt n 18 then (bif Nat.blt n 16 then md_Bridge_longest else (bif Nat.blt n 17 then md_Bridge_laneMinutes else md_Bridge_isLikeEarlier)) else (bif Nat.blt n 19 then md_Bridge_walkBy else (bif Nat.blt n 20 then md_Bridge_stepOn else md_Bridge_soonestFree))))) else (bif Nat.blt n 32 then (bif Nat.blt n 26 then (bif Nat.blt n 23 then (bif Nat.blt n 22 then md_Finder_init else md_Finder_forget) else (bif Nat.blt n 24 then md_Finder_countRows else (bif Nat.blt n 25 then md_Finder_gather else md_Finder_openRows))) else (bif Nat.blt n 29 then (bif Nat.blt n 27 then md_Finder_countAll else (bif Nat.blt n 28 then md_Finder_fill else md_Finder_take)) else (bif Nat.blt n 30 then md_Finder_childrenMinded else (bif Nat.blt n 31 then md_Finder_fillBed else md_Finder_isLeftAlone)))) else (bif Nat.blt n 37 then (bif Nat.blt n 34 then (bif Nat.blt n 33 then md_Finder_seekBest else md_Finder_shutOutAlone) else (bif Nat.blt n 35 then md_Finder_addUpRest else (bif Nat.blt n 36 then md_Finder_mostWanted else md_Finder_bestNight))) else (bif Nat.blt n 40 then (bif Nat.blt n 38 then md_Finder_layRow else (bif Nat.blt n 39 then md_Finder_countFits else md_Finder_openFits)) else (bif Nat.blt n 41 then md_Finder_housesInSome else (bif Nat.blt n 42 then md_Finder_foundWith else md_Finder_houseInAll)))))) else (bif Nat.blt n 64 then (bif Nat.blt n 53 then (bif Nat.blt n 48 then (bif Nat.blt n 45 then (bif Nat.blt n 44 then md_Finder_bedToAsk else md_Finder_foundWithAnybody) else (bif Nat.blt n 46 then md_Forecast_init else (bif Nat.blt n 47 then md_Forecast_forget else md_Forecast_reach))) else (bif Nat.blt n 50 then (bif Nat.blt n 49 then md_Forecast_note else md_Forecast_inChurch) else (bif Nat.blt n 51 then md_Forecast_knownBy else (bif Nat.blt n 52 then md_Forecast_hasLeaked else md_Past_init)))) else (bif Nat.blt n 58 then (bif Nat.blt n 55 then (bif Nat.blt n 54 then md_Past_forgetAll else md_Past_keep) else (bif Nat.blt n 56 then md_Past_restore else (bif Nat.blt n 57 then md_Past_addImage else md_Past_goBack))) else (bif Nat.blt n 61 then (bif Nat.blt n 59 then md_Reader_init else (bif Nat.blt n 60 then md_Reader_begin else md_Reader_goesOn)) else (bif Nat.blt n 62 then md_Reader_openLine else (bif Nat.blt n 63 then md_Reader_next else md_Reader_readRun))))) else (bif Nat.blt n 75 then (bif Nat.blt n 69 then (bif Nat.blt n 66 then (bif Nat.blt n 65 then md_Reader_lineSort else md_Reader_says) else (bif Nat.blt n 67 then md_Reader_lineFault else (bif Nat.blt n 68 then md_Reader_isFull else md_Reader_fail))) else (bif Nat.blt n 72 then (bif Nat.blt n 70 then md_Reader_readLine else (bif Nat.blt n 71 then md_Reader_readTowns else md_Reader_namedWhole)) else (bif Nat.blt n 73 then md_Reader_keyword else (bif Nat.blt n 74 then md_Reader_whole else md_Reader_readHouse)))) else (bif Nat.blt n 80 then (bif Nat.blt n 77 then (bif Nat.blt n 76 then md_Reader_newName else md_Reader_readName) else (bif Nat.blt n 78 then md_Reader_placeIn else (bif Nat.blt n 79 then md_Reader_readPerson else md_Reader_kindSaid))) else (bif Nat.blt n 83 then (bif Nat.blt n 81 then md_Reader_toldHouse else (bif Nat.blt n 82 then md_Reader_known else md_Reader_readFoes)) else (bif Nat.blt n 84 then md_Reader_toldPerson else (bif Nat.blt n 85 then md_Reader_readWants else md_Reader_refuseOwnSide))))))) else (bif Nat.blt n 129 then (bif Nat.blt n 107 then (bif Nat.blt n 96 then (bif Nat.blt n 91 then (bif Nat.blt n 88 then (bif Nat.blt n 87 then md_Reader_readKeeps else md_Reader_readIll) else (bif Nat.blt n 89 then md_Reader_readShoe else (bif Nat.blt n 90 then md_Reader_readCold else md_Reader_closeLine))) else (bif Nat.blt n 93 then (bif Nat.blt n 92 then md_Reader_finish else md_Reader_handOver) else (bif Nat.blt n 94 then md_Score_init else (bif Nat.blt n 95 then md_Score_beatsWith else md_Score_copyFrom)))) else (bif Nat.blt n 101 then (bif Nat.blt n 98 then (bif Nat.blt n 97 then md_Score_add else md_Score_set) else (bif Nat.blt n 99 then md_State_init else (bif Nat.blt n 100 then md_State_begin else md_State_isIll))) else (bif Nat.blt n 104 then (bif Nat.blt n 102 then md_State_firstIn else (bif Nat.blt n 103 then md_State_wrongAt else md_State_sleptLately)) else (bif Nat.blt n 105 then md_State_nightsAgo else (bif Nat.blt n 106 then md_State_othersIn else md_State_houseOfSleeper))))) else (bif Nat.blt n 118 then (bif Nat.blt n 112 then (bif Nat.blt n 109 then (bif Nat.blt n 108 then md_State_firstWronged else md_State_worthOf) else (bif Nat.blt n 110 then md_State_housesSlept else (bif Nat.blt n 111 then md_State_leaksOf else md_State_isPeace))) else (bif Nat.blt n 115 then (bif Nat.blt n 113 then md_State_guestsOf else (bif Nat.blt n 114 then md_State_metOf else md_State_fairness)) else (bif Nat.blt n 116 then md_State_bestSwap else (bif Nat.blt n 117 then md_State_canChange else md_State_change)))) else (bif Nat.blt n 123 then (bif Nat.blt n 120 then (bif Nat.blt n 119 then md_State_isRight else md_State_copyFrom) else (bif Nat.blt n 121 then md_State_sleep else (bif Nat.blt n 122 then md_State_meet else md_State_tellAll))) else (bif Nat.blt n 126 then (bif Nat.blt n 124 then md_State_tells else (bif Nat.blt n 125 then md_State_draw else md_Towns_init)) else (bif Nat.blt n 127 then md_Towns_clear else (bif Nat.blt n 128 then md_Towns_bedsOn else md_Towns_addHouse)))))) else (bif Nat.blt n 150 then (bif Nat.blt n 139 then (bif Nat.blt n 134 then (bif Nat.blt n 131 then (bif Nat.blt n 130 then md_Towns_peopleOf else md_Towns_sideOf) else (bif Nat.blt n 132 then md_Towns_addPerson else (bif Nat.blt n 133 then md_Towns_addFoes else md_Towns_wantsOf))) else (bif Nat.blt n 136 then (bif Nat.blt n 135 then md_Towns_hasKeeps else md_Towns_settle) else (bif Nat.blt n 137 then md_Towns_bedSide else (bif Nat.blt n 138 then md_Towns_housesOn else md_Town_init)))) else (bif Nat.blt n 144 then (bif Nat.blt n 141 then (bif Nat.blt n 140 then md_Town_feed else md_Town_append) else (bif Nat.blt n 142 then md_Town_towns else (bif Nat.blt n 143 then md_Town_refuse else md_Town_changed))) else (bif Nat.blt n 147 then (bif Nat.blt n 145 then md_Town_answer else (bif Nat.blt n 146 then md_Town_fault else md_Town_where)) else (bif Nat.blt n 148 then md_Town_house else (bif Nat.blt n 149 then md_Town_isHouse else md_Town_person))))) else (bif Nat.blt n 161 then (bif Nat.blt n 155 then (bif Nat.blt n 152 then (bif Nat.blt n 151 then md_Town_isPerson else md_Town_houseOf) else (bif Nat.blt n 153 then md_Town_isBed else (bif Nat.blt n 154 then md_Town_wants else md_Town_bed))) else (bif Nat.blt n 158 then (bif Nat.blt n 156 then md_Town_who else (bif Nat.blt n 157 then md_Town_wrong else md_Town_firstWrong)) else (bif Nat.blt n 159 then md_Town_isTold else (bif Nat.blt n 160 then md_Town_wrongIn else md_Town_worth)))) else (bif Nat.blt n 166 then (bif Nat.blt n 163 then (bif Nat.blt n 162 then md_Town_isSide else md_Town_rows) else (bif Nat.blt n 164 then md_Town_best else (bif Nat.blt n 165 then md_Town_bestOf else md_Town_bestChurch))) else (bif Nat.blt n 169 then (bif Nat.blt n 167 then md_Town_bestWorth else (bif Nat.blt n 168 then md_Town_turnsOf else md_Town_ago)) else (bif Nat.blt n 170 then md_Town_slept else (bif Nat.blt n 171 then md_Town_knows else md_Town_leaked)))))))) else (bif Nat.blt n 258 then (bif Nat.blt n 215 then (bif Nat.blt n 193 then (bif Nat.blt n 182 then (bif Nat.blt n 177 then (bif Nat.blt n 174 then (bif Nat.blt n 173 then md_Town_peace else md_Town_guests) else (bif Nat.blt n 175 then md_Town_together else (bif Nat.blt n 176 then md_Town_fair else md_Town_swap))) else (bif Nat.blt n 179 then (bif Nat.blt n 178 then md_Town_peaceIn else md_Town_churchIn) else (bif Nat.blt n 180 then md_Town_knowsIn else (bif Nat.blt n 181 then md_Town_leaksIn else md_Town_crossed)))) else (bif Nat.blt n 187 then (bif Nat.blt n 184 then (bif Nat.blt n 183 then md_Town_bridge else md_Town_isOrder) else (bif Nat.blt n 185 then md_Town_lastOver else (bif Nat.blt n 186 then md_Town_rests else md_Town_bargainTrouble))) else (bif Nat.blt n 190 then (bif Nat.blt n 188 then md_Town_holds else (bif Nat.blt n 189 then md_Town_plays else md_Town_bestRule)) else (bif Nat.blt n 191 then md_Town_fits else (bif Nat.blt n 192 then md_Town_fitsOf else md_Town_could))))) else (bif Nat.blt n 204 then (bif Nat.blt n 198 then (bif Nat.blt n 195 then (bif Nat.blt n 194 then md_Town_surely else md_Town_fitsWith) else (bif Nat.blt n 196 then md_Town_isPlace else (bif Nat.blt n 197 then md_Town_ask else md_Town_lays))) else (bif Nat.blt n 201 then (bif Nat.blt n 199 then md_Town_refuses else (bif Nat.blt n 200 then md_Town_grants else md_Town_laysBest)) else (bif Nat.blt n 202 then md_Town_night else (bif Nat.blt n 203 then md_Town_nights else md_Town_seed)))) else (bif Nat.blt n 209 then (bif Nat.blt n 206 then (bif Nat.blt n 205 then md_Town_undo else md_Town_image) else (bif Nat.blt n 207 then md_Town_back else (bif Nat.blt n 208 then md_Town_size else md_Town_trouble))) else (bif Nat.blt n 212 then (bif Nat.blt n 210 then md_Model_init else (bif Nat.blt n 211 then md_Model_thrown else md_Model_feed)) else (bif Nat.blt n 213 then md_Model_towns else (bif Nat.blt n 214 then md_Model_good else md_Model_within)))))) else (bif Nat.blt n 236 then (bif Nat.blt n 225 then (bif Nat.blt n 220 then (bif Nat.blt n 217 then (bif Nat.blt n 216 then md_Model_no else md_Model_next) else (bif Nat.blt n 218 then md_Model_look else (bif Nat.blt n 219 then md_Model_isSmall else md_Model_isDigit))) else (bif Nat.blt n 222 then (bif Nat.blt n 221 then md_Model_readLine else md_Model_isWord) else (bif Nat.blt n 223 then md_Model_townsLine else (bif Nat.blt n 224 then md_Model_fail else md_Model_after)))) else (bif Nat.blt n 230 then (bif Nat.blt n 227 then (bif Nat.blt n 226 then md_Model_must else md_Model_takesWord) else (bif Nat.blt n 228 then md_Model_number else (bif Nat.blt n 229 then md_Model_numberHere else md_Model_begins))) else (bif Nat.blt n 233 then (bif Nat.blt n 231 then md_Model_houseLine else (bif Nat.blt n 232 then md_Model_newName else md_Model_mustName)) else (bif Nat.blt n 234 then md_Model_find else (bif Nat.blt n 235 then md_Model_bedsOf else md_Model_personLine))))) else (bif Nat.blt n 247 then (bif Nat.blt n 241 then (bif Nat.blt n 238 then (bif Nat.blt n 237 then md_Model_named else md_Model_foesLine) else (bif Nat.blt n 239 then md_Model_passed else (bif Nat.blt n 240 then md_Model_hasBit else md_Model_wantsLine))) else (bif Nat.blt n 244 then (bif Nat.blt n 242 then md_Model_sideOfHouse else (bif Nat.blt n 243 then md_Model_sideOfHome else md_Model_keepsLine)) else (bif Nat.blt n 245 then md_Model_illLine else (bif Nat.blt n 246 then md_Model_shoeLine else md_Model_coldLine)))) else (bif Nat.blt n 252 then (bif Nat.blt n 249 then (bif Nat.blt n 248 then md_Model_copy else md_Model_manOf) else (bif Nat.blt n 250 then md_Model_fault else (bif Nat.blt n 251 then md_Model_where else md_Model_house))) else (bif Nat.blt n 255 then (bif Nat.blt n 253 then md_Model_isHouse else (bif Nat.blt n 254 then md_Model_person else md_Model_isPerson)) else (bif Nat.blt n 256 then md_Model_its else (bif Nat.blt n 257 then md_Model_houseOf else md_Model_isBed))))))) else (bif Nat.blt n 301 then (bif Nat.blt n 279 then (bif Nat.blt n 268 then (bif Nat.blt n 263 then (bif Nat.blt n 260 then (bif Nat.blt n 259 then md_Model_wants else md_Model_bed) else (bif Nat.blt n 261 then md_Model_bedNow else (bif Nat.blt n 262 then md_Model_who else md_Model_wrong))) else (bif Nat.blt n 265 then (bif Nat.blt n 264 then md_Model_layBeds else md_Model_wrongWith) else (bif Nat.blt n 266 then md_Model_houseSide else (bif Nat.blt n 267 then md_Model_lastIn else md_Model_firstWrong)))) else (bif Nat.blt n 273 then (bif Nat.blt n 270 then (bif Nat.blt n 269 then md_Model_firstWrongOf else md_Model_wrongIn) else (bif Nat.blt n 271 then md_Model_worth else (bif Nat.blt n 272 then md_Model_isSide else md_Model_worthOf))) else (bif Nat.blt n 276 then (bif Nat.blt n 274 then md_Model_rows else (bif Nat.blt n 275 then md_Model_seek else md_Model_seekFrom)) else (bif Nat.blt n 277 then md_Model_endRow else (bif Nat.blt n 278 then md_Model_areShoesThere else md_Model_mayBeIn))))) else (bif Nat.blt n 290 then (bif Nat.blt n 284 then (bif Nat.blt n 281 then (bif Nat.blt n 280 then md_Model_best else md_Model_bestChurch) else (bif Nat.blt n 282 then md_Model_bestWorth else (bif Nat.blt n 283 then md_Model_swap else md_Model_isRightSwapped))) else (bif Nat.blt n 287 then (bif Nat.blt n 285 then md_Model_turnsOf else (bif Nat.blt n 286 then md_Model_ago else md_Model_slept)) else (bif Nat.blt n 288 then md_Model_sleptOf else (bif Nat.blt n 289 then md_Model_knows else md_Model_leaked)))) else (bif Nat.blt n 295 then (bif Nat.blt n 292 then (bif Nat.blt n 291 then md_Model_leakedOf else md_Model_guests) else (bif Nat.blt n 293 then md_Model_together else (bif Nat.blt n 294 then md_Model_fair else md_Model_peace))) else (bif Nat.blt n 298 then (bif Nat.blt n 296 then md_Model_isPeace else (bif Nat.blt n 297 then md_Model_ones else md_Model_peaceIn)) else (bif Nat.blt n 299 then md_Model_save else (bif Nat.blt n 300 then md_Model_bestNight else md_Model_layBest)))))) else (bif Nat.blt n 322 then (bif Nat.blt n 311 then (bif Nat.blt n 306 then (bif Nat.blt n 303 then (bif Nat.blt n 302 then md_Model_sleep else md_Model_doTell) else (bif Nat.blt n 304 then md_Model_bringBack else (bif Nat.blt n 305 then md_Model_churchIn else md_Model_knowsIn))) else (bif Nat.blt n 308 then (bif Nat.blt n 307 then md_Model_leaksIn else md_Model_crossed) else (bif Nat.blt n 309 then md_Model_crossedOf else (bif Nat.blt n 310 then md_Model_layWalkers else md_Model_bridge)))) else (bif Nat.blt n 316 then (bif Nat.blt n 313 then (bif Nat.blt n 312 then md_Model_isOrder else md_Model_bridgeBy) else (bif Nat.blt n 314 then md_Model_comesFirst else (bif Nat.blt n 315 then md_Model_lastOver else md_Model_rests))) else (bif Nat.blt n 319 then (bif Nat.blt n 317 then md_Model_keepWhy else (bif Nat.blt n 318 then md_Model_keepOf else md_Model_holds)) else (bif Nat.blt n 320 then md_Model_plays else (bif Nat.blt n 321 then md_Model_playedOf else md_Model_doesKeep))))) else (bif Nat.blt n 333 then (bif Nat.blt n 327 then (bif Nat.blt n 324 then (bif Nat.blt n 323 then md_Model_bestRule else md_Model_fits) else (bif Nat.blt n 325 then md_Model_could else (bif Nat.blt n 326 then md_Model_fitsIn else md_Model_surely))) else (bif Nat.blt n 330 then (bif Nat.blt n 328 then md_Model_fitsWith else (bif Nat.blt n 329 then md_Model_ask else md_Model_lays)) else (bif Nat.blt n 331 then md_Model_isNot else (bif Nat.blt n 332 then md_Model_note else md_Model_laysBest)))) else (bif Nat.blt n 338 then (bif Nat.blt n 335 then (bif Nat.blt n 334 then md_Model_night else md_Model_nights) else (bif Nat.blt n 336 then md_Model_seed else (bif Nat.blt n 337 then md_Model_undo else md_Model_image))) else (bif Nat.blt n 341 then (bif Nat.blt n 339 then md_Model_back else (bif Nat.blt n 340 then md_Model_led else md_Model_size)) else (bif Nat.blt n 342 then md_Model_trouble else (bif Nat.blt n 343 then md_Arrays_fill else md_Integer_bitCount)))))))))
def g_kl : List Nat := [1, 1, 1, 1, 1, 1, 1, 1, 1, 2, 0, 0, 1, 1, 0, 0, 0, 0, 0, 0, 0, 2, 0, 0, 0, 0, 0, 0, 0, 0, 0, 0, 0, 0, 0, 0, 0, 0, 0, 0, 0, 0, 0, 0, 0, 2, 0, 0, 0, 0, 0, 0, 2, 0, 0, 0, 0, 0, 2, 0, 0, 0, 0, 0, 0, 0, 0, 0, 0, 0, 0, 0, 0, 0, 0, 0, 0, 0, 0, 0, 0, 0, 0, 0, 0, 0, 0, 0, 0, 0, 0, 0, 0, 2, 0, 0, 0, 0, 2, 0, 0, 0, 0, 0, 0, 0, 0, 0, 0, 0, 0, 0, 0, 0, 0, 0, 0, 0, 0, 0, 0, 0, 0, 0, 0, 2, 0, 0, 0, 0, 0, 0, 0, 0, 0, 0, 0, 0, 2, 0, 0, 0, 0, 0, 0, 0, 0, 0, 0, 0, 0, 0, 0, 0, 0, 0, 0, 0, 0, 0, 0, 0, 0, 0, 0, 0, 0, 0, 0, 0, 0, 0, 0, 0, 0, 0, 0, 0, 0, 0, 0, 0, 0, 0, 0, 0, 0, 0, 0, 0, 0, 0, 0, 0, 0, 0, 0, 0, 0, 0, 0, 0, 0, 0, 0, 0, 0, 0, 0, 2, 0, 0, 0, 0, 1, 0, 0, 0, 1, 1, 0, 0, 0, 0, 0, 0, 0, 0, 0, 0, 0, 0, 0, 0, 0, 0, 0, 0, 0, 1, 0, 0, 0, 0, 0, 0, 0, 1, 0, 0, 0, 0, 0, 0, 0, 0, 0, 0, 0, 0, 0, 0, 0, 0, 0, 0, 0, 0, 0, 0, 0, 0, 0, 0, 0, 0, 0, 0, 0, 0, 0, 0, 0, 0, 0, 0, 0, 0, 0, 0, 0, 0, 0, 0, 0, 0, 1, 0, 0, 0, 0, 0, 0, 0, 0, 0, 0, 0, 0, 0, 0, 0, 0, 0, 0, 0, 0, 0, 0, 0, 0, 1, 0, 0, 0, 0, 0, 0, 0, 0, 0, 0, 0, 0, 0, 0, 0, 0, 0, 0, 0, 0, 1, 1]
def g_mk (n : Nat) : Nat := g_kl.getD n 0
