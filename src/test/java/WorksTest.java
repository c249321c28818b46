/** Promises 5 to 14: WORKS, their OWNERS, chapters and collections. */
public final class WorksTest {
    public static void main(String[] args) {
        work();
        join();
        leave();
        chapter();
        post();
        lock();
        collection();
        collect();
        sees();
        owners();
        Check.end();
    }

    private static void work() {
        Tagwranglery x = new Tagwranglery();
        Check.noIndex("5 work(-1, 0)", () -> x.work(-1, 0));
        Check.noIndex("5 work(12, 0)", () -> x.work(12, 0));
        Check.noIndex("5 work(12, 4): the index comes first", () -> x.work(12, 4));
        Check.noArgument("5 work(0, -1)", () -> x.work(0, -1));
        Check.noArgument("5 work(0, 4)", () -> x.work(0, 4));
        for (int i = 0; i < 20; i++) {
            Check.is("5 work " + i, i, x.work(i % 12, i % 4));
        }
        Check.noState("5 work 20", () -> x.work(0, 0));
        Check.noArgument("5 the argument comes ahead of the state", () -> x.work(0, 4));
        Check.is("5 its OWNER", Check.set(7), x.owners(7, 19));
        Check.noState("5 a draft without chapters", () -> x.post(19));
        Check.is("5 a draft is not seen", false, x.sees(8, 19));
    }

    private static void join() {
        Tagwranglery x = new Tagwranglery();
        x.work(0, 0);
        Check.noIndex("6 join(-1, 1)", () -> x.join(-1, 1));
        Check.noIndex("6 join(1, 1)", () -> x.join(1, 1));
        Check.noIndex("6 join(0, -1)", () -> x.join(0, -1));
        Check.noIndex("6 join(0, 12)", () -> x.join(0, 12));
        Check.noState("6 join(0, 0)", () -> x.join(0, 0));
        Check.is("6 join(0, 11)", 2, x.join(0, 11));
        Check.noState("6 join(0, 11) again", () -> x.join(0, 11));
        Check.is("6 join(0, 5)", 3, x.join(0, 5));
        Check.noState("6 it has 3", () -> x.join(0, 6));
        Check.is("6 the OWNERS", Check.set(0, 5, 11), x.owners(5, 0));
        x.leave(0, 5);
        Check.is("6 room again", 3, x.join(0, 6));
        x.leave(0, 0);
        x.leave(0, 11);
        x.leave(0, 6);
        Check.noState("6 it has none", () -> x.join(0, 0));
    }

    private static void leave() {
        Tagwranglery x = new Tagwranglery();
        x.work(3, 0);
        x.join(0, 4);
        Check.noIndex("7 leave(-1, 3)", () -> x.leave(-1, 3));
        Check.noIndex("7 leave(1, 3)", () -> x.leave(1, 3));
        Check.noIndex("7 leave(0, -1)", () -> x.leave(0, -1));
        Check.noIndex("7 leave(0, 12)", () -> x.leave(0, 12));
        Check.noState("7 leave(0, 5)", () -> x.leave(0, 5));
        Check.is("7 leave(0, 3)", 1, x.leave(0, 3));
        Check.is("7 who left is none", 0, x.owners(3, 0));
        Check.is("7 who stays", Check.set(4), x.owners(4, 0));
        Check.noState("7 leave(0, 3) again", () -> x.leave(0, 3));
        Check.is("7 leave(0, 4)", 0, x.leave(0, 4));
        Check.noState("7 leave(0, 4) again", () -> x.leave(0, 4));
    }

    private static void chapter() {
        Tagwranglery x = new Tagwranglery();
        x.work(0, 0);
        Check.noIndex("8 chapter(-1)", () -> x.chapter(-1));
        Check.noIndex("8 chapter(1)", () -> x.chapter(1));
        for (int i = 0; i < 8; i++) {
            Check.is("8 chapter " + i, i, x.chapter(0));
        }
        Check.noState("8 it has 8", () -> x.chapter(0));
        Check.is("8 post has 8", 8, x.post(0));
        Check.noState("8 it has 8, POSTED", () -> x.chapter(0));
        x.work(0, 0);
        Check.is("8 another WORK", 0, x.chapter(1));
    }

    private static void post() {
        Tagwranglery x = new Tagwranglery();
        x.work(0, 0);
        Check.noIndex("9 post(-1)", () -> x.post(-1));
        Check.noIndex("9 post(1)", () -> x.post(1));
        Check.noState("9 without chapter", () -> x.post(0));
        x.chapter(0);
        x.chapter(0);
        Check.is("9 not seen as a draft", false, x.sees(1, 0));
        Check.is("9 post(0)", 2, x.post(0));
        Check.is("9 seen", true, x.sees(1, 0));
        Check.noState("9 it is POSTED", () -> x.post(0));
        Check.is("9 chapters go on", 2, x.chapter(0));
    }

    private static void lock() {
        Tagwranglery x = new Tagwranglery();
        Check.posted(x, 0, 0);
        Check.noIndex("10 lock(-1)", () -> x.lock(-1, true));
        Check.noIndex("10 lock(1)", () -> x.lock(1, false));
        Check.is("10 not LOCKED at first", false, x.lock(0, false));
        Check.is("10 lock", false, x.lock(0, true));
        Check.is("10 no PERSON does not see it", false, x.sees(12, 0));
        Check.is("10 a PERSON does", true, x.sees(11, 0));
        Check.is("10 lock again", true, x.lock(0, true));
        Check.is("10 unlock", true, x.lock(0, false));
        Check.is("10 it is seen again", true, x.sees(12, 0));
    }

    private static void collection() {
        Tagwranglery x = new Tagwranglery();
        Check.noArgument("11 opens -1", () -> x.collection(-1, 0));
        Check.noArgument("11 opens 2001", () -> x.collection(2001, 2001));
        Check.noArgument("11 names before opens", () -> x.collection(5, 4));
        Check.noArgument("11 names 2001", () -> x.collection(5, 2001));
        Check.is("11 first", 0, x.collection(0, 0));
        Check.is("11 last days", 1, x.collection(2000, 2000));
        for (int i = 2; i < 6; i++) {
            Check.is("11 collection " + i, i, x.collection(i, 2000));
        }
        Check.noState("11 there are 6", () -> x.collection(0, 0));
        Check.noArgument("11 the argument comes first", () -> x.collection(1, 0));
        x.work(0, 0);
        x.collect(0, 5);
        Check.noIndex("11 none came by a throw", () -> x.collect(0, 6));
    }

    private static void collect() {
        Tagwranglery x = new Tagwranglery();
        Check.posted(x, 0, 0);
        x.work(1, 0);
        x.collection(3, 3);
        Check.noIndex("12 collect(-1, 0)", () -> x.collect(-1, 0));
        Check.noIndex("12 collect(2, 0)", () -> x.collect(2, 0));
        Check.noIndex("12 collect(0, -1)", () -> x.collect(0, -1));
        Check.noIndex("12 collect(0, 1)", () -> x.collect(0, 1));
        x.collect(0, 0);
        x.collect(1, 0);
        Check.is("12 a POSTED one is hidden", false, x.sees(5, 0));
        x.collection(0, 0);
        Check.noState("12 it is in one", () -> x.collect(0, 0));
        Check.noState("12 once", () -> x.collect(0, 1));
        Check.noState("12 a draft is in one, too", () -> x.collect(1, 1));
        Check.noIndex("12 the index comes first", () -> x.collect(0, 2));
        Check.is("12 it stays there", false, x.sees(5, 0));
    }

    private static void sees() {
        Tagwranglery x = new Tagwranglery();
        x.work(0, 0);
        x.chapter(0);
        Check.noIndex("13 sees(-1, 0)", () -> x.sees(-1, 0));
        Check.noIndex("13 sees(32, 0)", () -> x.sees(32, 0));
        Check.noIndex("13 sees(0, -1)", () -> x.sees(0, -1));
        Check.noIndex("13 sees(0, 1)", () -> x.sees(0, 1));
        Check.is("13 the OWNER sees the draft", true, x.sees(0, 0));
        Check.is("13 others do not", false, x.sees(1, 0));
        x.collection(2, 4);
        x.collect(0, 0);
        x.post(0);
        x.same(0, 20);
        Check.is("13 hidden in the collection", false, x.sees(1, 0));
        Check.is("13 who is the SAME as the OWNER is none", false, x.sees(20, 0));
        Check.is("13 the OWNER sees it", true, x.sees(0, 0));
        x.pass(1);
        Check.is("13 a day ahead of opening", false, x.sees(1, 0));
        x.pass(1);
        Check.is("13 on the day", true, x.sees(31, 0));
        x.lock(0, true);
        Check.is("13 LOCKED, no PERSON", false, x.sees(31, 0));
        Check.is("13 LOCKED, a PERSON", true, x.sees(11, 0));
        x.block(0, 11, true);
        Check.is("13 a BLOCK hides nothing", true, x.sees(11, 0));
        x.leave(0, 0);
        Check.is("13 who left sees it as others do", true, x.sees(0, 0));
        x.work(0, 0);
        x.leave(1, 0);
        Check.is("13 nobody sees a draft without OWNERS", false, x.sees(0, 1));
    }

    private static void owners() {
        Tagwranglery x = new Tagwranglery();
        x.work(0, 0);
        x.join(0, 3);
        x.chapter(0);
        Check.noIndex("14 owners(-1, 0)", () -> x.owners(-1, 0));
        Check.noIndex("14 owners(32, 0)", () -> x.owners(32, 0));
        Check.noIndex("14 owners(0, -1)", () -> x.owners(0, -1));
        Check.noIndex("14 owners(0, 1)", () -> x.owners(0, 1));
        Check.is("14 of a draft, to one of them", Check.set(0, 3), x.owners(3, 0));
        Check.is("14 of a draft, to others", 0, x.owners(1, 0));
        x.post(0);
        Check.is("14 POSTED", Check.set(0, 3), x.owners(31, 0));
        x.collection(1, 3);
        x.collect(0, 0);
        Check.is("14 not open", 0, x.owners(1, 0));
        x.pass(2);
        Check.is("14 open, not named", 0, x.owners(1, 0));
        Check.is("14 not named, to one of them", Check.set(0, 3), x.owners(0, 0));
        x.pass(1);
        Check.is("14 named", Check.set(0, 3), x.owners(1, 0));
        x.lock(0, true);
        Check.is("14 named, not SEEN", 0, x.owners(12, 0));
        x.leave(0, 0);
        x.leave(0, 3);
        Check.is("14 there are none", 0, x.owners(1, 0));
    }
}
