/** Promises 2 to 4: days, BLOCKS and the SAME. */
public final class DaysTest {
    public static void main(String[] args) {
        pass();
        block();
        same();
        Check.end();
    }

    private static void pass() {
        Tagwranglery x = new Tagwranglery();
        Check.noArgument("2 pass(0)", () -> x.pass(0));
        Check.noArgument("2 pass(-1)", () -> x.pass(-1));
        Check.noArgument("2 pass(101)", () -> x.pass(101));
        Check.noArgument("2 pass(least)", () -> x.pass(Integer.MIN_VALUE));
        Check.noArgument("2 pass(greatest)", () -> x.pass(Integer.MAX_VALUE));
        Check.is("2 pass(1)", 1, x.pass(1));
        Check.is("2 pass(100)", 101, x.pass(100));
        for (int i = 0; i < 18; i++) {
            x.pass(100);
        }
        Check.noState("2 pass(100) from 1901", () -> x.pass(100));
        Check.noArgument("2 the argument comes first", () -> x.pass(101));
        Check.is("2 pass(99) to 2000", 2000, x.pass(99));
        Check.noState("2 pass(1) from 2000", () -> x.pass(1));
    }

    private static void block() {
        Tagwranglery x = new Tagwranglery();
        Check.noIndex("3 block(-1, 0)", () -> x.block(-1, 0, true));
        Check.noIndex("3 block(12, 0)", () -> x.block(12, 0, true));
        Check.noIndex("3 block(0, -1)", () -> x.block(0, -1, true));
        Check.noIndex("3 block(0, 12)", () -> x.block(0, 12, true));
        Check.noIndex("3 block(12, 12)", () -> x.block(12, 12, true));
        Check.noArgument("3 block(11, 11)", () -> x.block(11, 11, true));
        Check.noArgument("3 block(0, 0, false)", () -> x.block(0, 0, false));
        Check.is("3 off, was off", false, x.block(0, 11, false));
        Check.is("3 on, was off", false, x.block(0, 11, true));
        Check.is("3 on, was on", true, x.block(0, 11, true));
        Check.is("3 the other way is another", false, x.block(11, 0, false));
        Check.is("3 another one", false, x.block(0, 10, true));
        Check.is("3 off, was on", true, x.block(0, 11, false));
        Check.is("3 off, was off again", false, x.block(0, 11, false));
        Check.is("3 the other one stays", true, x.block(0, 10, true));
    }

    private static void same() {
        Tagwranglery x = new Tagwranglery();
        Check.noIndex("4 same(-1, 0)", () -> x.same(-1, 0));
        Check.noIndex("4 same(0, -1)", () -> x.same(0, -1));
        Check.noIndex("4 same(32, 0)", () -> x.same(32, 0));
        Check.noIndex("4 same(0, 32)", () -> x.same(0, 32));
        Check.is("4 each is the SAME as itself", false, x.same(31, 31));
        Check.is("4 same(0, 31)", true, x.same(0, 31));
        Check.is("4 same(31, 0)", false, x.same(31, 0));
        Check.is("4 same(5, 6)", true, x.same(5, 6));
        Check.is("4 same(7, 8)", true, x.same(7, 8));
        Check.is("4 same(6, 7)", true, x.same(6, 7));
        Check.is("4 each of one with each of the other", false, x.same(5, 8));
        Check.is("4 and back", false, x.same(8, 6));
        Check.is("4 others are not", true, x.same(0, 5));
        Check.is("4 now all are", false, x.same(31, 8));
    }
}
