/** Promise 8: bound, with all that the document says of INTERVALS; U stands for UNBOUNDED. */
public final class BoundTest {
    private static final long LIMIT = 1L << 60;

    public static void main(String[] args) {
        Check check = new Check();
        arguments(check);
        simple(check);
        sums(check);
        products(check);
        quotientsAndRests(check);
        rounds(check);
        check.end("BoundTest");
    }

    private static void arguments(Check check) {
        BigRunner none = new BigRunner();
        BigRunner some = Check.loaded("a=a+1;j=3");
        for (int i : new int[] {-1, 10, 11, Integer.MIN_VALUE, Integer.MAX_VALUE}) {
            check.dueThrow("bound(" + i + ", true)", IndexOutOfBoundsException.class, () -> some.bound(i, true));
            check.dueThrow("bound(" + i + ", false)", IndexOutOfBoundsException.class, () -> some.bound(i, false));
        }
        for (int i = 0; i < 10; i++) {
            int variable = i;
            check.dueThrow("no program", IndexOutOfBoundsException.class, () -> none.bound(variable, false));
        }
        check.dueThrow("bound(0, true)", UnsupportedOperationException.class, () -> some.bound(0, true));
        check.due("bound(0, false)", some.bound(0, false), 0);
        check.due("bound(9, true)", some.bound(9, true), 3);
        check.due("bound(9, false)", some.bound(9, false), 0);
        check.due("bound(5, true)", some.bound(5, true), 0);
        some.run(1);
        check.due("it is for the whole program", some.bound(9, true), 3);
    }

    private static void dueBounds(Check check, String text, String want) {
        BigRunner runner = Check.loaded(text);
        check.due("the interval of j in " + text, Check.bounds(runner, 9), want);
    }

    private static void simple(Check check) {
        dueBounds(check, "!j", "0..0");
        dueBounds(check, "j=5", "0..5");
        dueBounds(check, "j=-5", "-5..0");
        dueBounds(check, "j=999999999", "0..999999999");
        dueBounds(check, "j=5;j=-7;j=3", "-7..5");
        dueBounds(check, "?j", "-1000000000..1000000000");
        dueBounds(check, "[0:{0:j=1|j=-1}]", "-1..1");
        dueBounds(check, "a=5;a=-2;j=-a", "-5..2");
        dueBounds(check, "a=a+1;j=-a", "U..0");
        dueBounds(check, "a=a-1;j=-a", "0..U");
        dueBounds(check, "a=a+1;j=a", "0..U");
    }

    private static void sums(Check check) {
        dueBounds(check, "a=5;a=-2;b=7;b=-3;j=a+b", "-5..12");
        dueBounds(check, "a=5;a=-2;b=7;b=-3;j=a-b", "-9..8");
        dueBounds(check, "a=a+1;b=7;b=-3;j=a+b", "-3..U");
        dueBounds(check, "a=a+1;b=7;b=-3;j=a-b", "-7..U");
        dueBounds(check, "a=a+1;b=7;b=-3;j=b-a", "U..7");
        dueBounds(check, "a=a+1;b=b-1;j=a+b", "U..U");
        dueBounds(check, "a=a+1;b=b-1;j=a-b", "0..U");
        // 2 to the 60th is 1073741824 squared.
        String limit = "b=32768*32768;a=b*b;";
        dueBounds(check, limit + "j=a", "0.." + LIMIT);
        dueBounds(check, limit + "j=-a", "-" + LIMIT + "..0");
        dueBounds(check, limit + "j=a+1", "0..U");
        dueBounds(check, limit + "j=-a-1", "U..0");
        dueBounds(check, limit + "j=a-1", "-1.." + (LIMIT - 1));
        dueBounds(check, limit + "j=a+a", "0..U");
        dueBounds(check, limit + "j=a+1-1", "0..U");
        // A least bound beyond LIMIT is UNBOUNDED too.
        dueBounds(check, "j=999999999*999999999+999999999*999999999", "U..U");
        dueBounds(check, "j=-(999999999*999999999)-999999999*999999999", "U..U");
    }

    private static void products(Check check) {
        dueBounds(check, "a=5;a=-2;b=7;b=-3;j=a*b", "-15..35");
        dueBounds(check, "a=-5;b=-7;j=a*b", "0..35");
        dueBounds(check, "j=-5*7", "-35..0");
        dueBounds(check, "j=-5*-7", "0..35");
        dueBounds(check, "a=a+1;j=a*2", "U..U");
        dueBounds(check, "a=a+1;j=2*a", "U..U");
        dueBounds(check, "a=a+1;j=a*0", "0..0");
        dueBounds(check, "a=a+1;j=0*a", "0..0");
        dueBounds(check, "a=a+1;j=b*a", "0..0");
        dueBounds(check, "a=a-1;b=b+1;j=a*b", "U..U");
        dueBounds(check, "j=1073741*1073741", "0.." + 1073741L * 1073741L);
        dueBounds(check, "a=32768*32768;j=a*a", "0.." + LIMIT);
        dueBounds(check, "a=32768*32768;j=-a*a", "-" + LIMIT + "..0");
        dueBounds(check, "a=32768*32768;j=a*(a+1)", "0..U");
        dueBounds(check, "a=32768*32768;b=-a;j=b*(a+1)", "U..0");
        dueBounds(check, "b=32768*32768;a=b*b;j=a*a", "0..U");
        dueBounds(check, "b=32768*32768;a=b*b;j=a*-a", "U..0");
        dueBounds(check, "b=32768*32768;a=b*b;j=a*16", "0..U");
        dueBounds(check, "?a;j=a*a*a", "U..U");
        dueBounds(check, "?a;j=a*a", "-1000000000000000000..1000000000000000000");
        dueBounds(check, "j=999999999*999999999*2", "U..U");
    }

    private static void quotientsAndRests(Check check) {
        dueBounds(check, "j=7/2", "-7..7");
        dueBounds(check, "a=5;a=-12;j=a/100", "-12..12");
        dueBounds(check, "a=5;j=a/0", "-5..5");
        dueBounds(check, "j=0/7", "0..0");
        dueBounds(check, "a=a+1;j=a/100", "U..U");
        dueBounds(check, "a=a-1;j=a/100", "U..U");
        dueBounds(check, "a=a-1;j=7/a", "-7..7");
        dueBounds(check, "j=100%7", "0..6");
        dueBounds(check, "j=3%7", "0..3");
        dueBounds(check, "j=-3%7", "-3..3");
        dueBounds(check, "j=-100%7", "-6..6");
        dueBounds(check, "j=100%-7", "0..6");
        dueBounds(check, "j=100%0", "0..0");
        dueBounds(check, "j=-100%1", "0..0");
        dueBounds(check, "a=5;a=-9;j=100%a", "0..8");
        dueBounds(check, "a=5;a=-9;j=a%100", "-9..9");
        dueBounds(check, "a=a+1000;j=a%1000", "0..999");
        dueBounds(check, "a=a-1000;j=a%1000", "-999..999");
        dueBounds(check, "a=a+9;j=5%a", "0..5");
        dueBounds(check, "a=a+9;j=-5%a", "-5..5");
        dueBounds(check, "a=a+1;j=a%a", "0..U");
        dueBounds(check, "a=a-1;j=a%a", "U..U");
        dueBounds(check, "a=a-1;b=b+1;j=b%a", "0..U");
        dueBounds(check, "a=a-1;j=a%0", "0..0");
        dueBounds(check, "j=(999999999*999999999*2)%10", "-9..9");
    }

    private static void rounds(Check check) {
        dueBounds(check, "{0:j=i|i=h};h=g;g=5", "0..U");
        dueBounds(check, "{0:j=i|i=h};h=5", "0..5");
        dueBounds(check, "j=j+1", "0..U");
        dueBounds(check, "j=-j*2;j=1", "U..U");
        dueBounds(check, "j=j%10+1", "0..U");
        dueBounds(check, "j=a;a=a%3+1", "0..U");
        dueBounds(check, "a=a%3+1;j=a", "0..3");
        // The join of the fourth round moves the bound from 3 to 999.
        dueBounds(check, "a=a+1;j=a%1000", "0..U");
        dueBounds(check, "a=a-1;j=a%1000", "U..U");
        dueBounds(check, "a=a+1;j=5%a", "0..U");
        dueBounds(check, "j=(j+1)%3", "0..2");
        dueBounds(check, "j=(j+1)%4", "0..3");
        dueBounds(check, "j=(j+1)%5", "0..U");
        dueBounds(check, "j=j-1", "U..0");
    }
}
