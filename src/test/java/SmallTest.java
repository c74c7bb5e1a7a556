/** Promise 9: small. */
public final class SmallTest {
    public static void main(String[] args) {
        Check check = new Check();
        BigRunner none = new BigRunner();
        BigRunner some = Check.loaded("a=a+9;b=b-1;c=a%7;d=a*b;?e;f=e*e;g=f*f;h=g%9");
        boolean[] due = {false, false, true, false, true, true, false, true, true, true};
        for (int i = 0; i < 10; i++) {
            check.due("no program, small(" + i + ")", none.small(i), false);
            check.due("small(" + i + ")", some.small(i), due[i]);
        }
        for (int i : new int[] {-1, 10, 11, Integer.MIN_VALUE, Integer.MAX_VALUE}) {
            check.due("no program, small(" + i + ")", none.small(i), false);
            check.due("small(" + i + ")", some.small(i), false);
        }
        Check.typeAll(some, "a=1;c=c-1");
        some.load();
        check.due("small(0) after another load", some.small(0), true);
        check.due("small(2) after another load", some.small(2), false);
        check.end("SmallTest");
    }
}
