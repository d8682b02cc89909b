import java.lang.reflect.InvocationTargetException;
import java.lang.reflect.Method;
import java.util.ArrayList;
import java.util.Comparator;
import java.util.List;

/** Runs the tests of boundary cases: methods named promiseNN_.., one for each sentence that names such a case. */
final class Edges {
    static final int MOST = Integer.MAX_VALUE;
    static final int LEAST = Integer.MIN_VALUE;

    /** The plainest towns: beds a 0, c 1 2, d 3; two people of the left, one of the right. */
    static final String SMALL = "towns vow 1 month 1 wide 1 turn 0;house a left beds 1;house c right beds 2"
            + ";house d right beds 1;person k plain of a walks 1 kin 0;person l plain of a walks 1 kin 0"
            + ";person m plain of c walks 1 kin 0";

    /** All there is room for. Beds: a 0 1 2, b 3 4, c 5, d 6, e 7 8, f 9 10 11; people 0 to 4 left, 5 to 9 right. */
    static final String FULL = "towns vow 6 month 30 wide 3 turn 9;house a left beds 3;house b left beds 2"
            + ";house c left beds 1;house d right beds 1;house e right beds 2;house f right beds 3"
            + ";person k plain of a walks 9 kin 9;person l plain of a walks 9 kin 9;person m plain of b walks 9 kin 9"
            + ";person n plain of b walks 9 kin 9;person o plain of c walks 9 kin 9;person p plain of d walks 9 kin 9"
            + ";person q plain of e walks 9 kin 9;person r plain of e walks 9 kin 9;person s plain of f walks 9 kin 9"
            + ";person t plain of f walks 9 kin 9";
    static final String FULL_FOES = ";foes k p;foes k q;foes k r;foes k s;foes k t;foes l t";
    static final String FULL_WANTS = ";wants k d 9;wants k e 9;wants k f 9;wants l f 9;wants m f 9;wants n f 9"
            + ";wants o f 9;wants p a 9;wants q a 9;wants r a 9;wants s a 9;wants t a 9";
    static final String FULL_KEEPS = ";keeps a 99 99 99 99;keeps b 99 99 99 99;keeps c 99 99 99 99;keeps d 0 0 0 0"
            + ";keeps e 0 0 0 0;keeps f 0 0 0 0";
    static final String FULL_CLUES = ";shoe k d;shoe l e;shoe m f;cold a 2;cold b 1;cold c 0";

    private Edges() {
    }

    static List<Method> testsOf(Class<?> tests) {
        List<Method> found = new ArrayList<>();
        for (Method m : tests.getDeclaredMethods()) {
            if (m.getName().matches("promise\\d\\d_.*")) {
                found.add(m);
            }
        }
        found.sort(Comparator.comparing(Method::getName));
        return found;
    }

    static void run(Class<?> tests) {
        Check check = new Check();
        for (Method m : testsOf(tests)) {
            check.begin(m.getName());
            try {
                m.invoke(null, check);
            } catch (InvocationTargetException e) {
                check.due("it threw " + e.getCause() + "; that", 1, 0);
            } catch (IllegalAccessException e) {
                throw new IllegalStateException(e);
            }
        }
        check.end();
    }
}
