/** Promises 24 to 28: the tape, its fault, searches and results. */
public final class SearchTest {
    public static void main(String[] args) {
        type();
        typeFull();
        wipe();
        fault();
        faultOfLongTapes();
        searchRefusals();
        searchRatings();
        searchOwners();
        searchTags();
        searchLinks();
        searchSeen();
        searchDeep();
        result();
        resultOrder();
        Check.end();
    }

    private static void type() {
        Tagwranglery x = new Tagwranglery();
        long good = Check.packed("tar09&|!");
        Check.noArgument("24 n 0", () -> x.type(good, 0));
        Check.noArgument("24 n -1", () -> x.type(good, -1));
        Check.noArgument("24 n 9", () -> x.type(good, 9));
        Check.is("24 n 8", 8, x.type(good, 8));
        Check.is("24 n 2", 10, x.type(Check.packed("()"), 2));
        for (int sign = 0; sign < 256; sign++) {
            Tagwranglery y = new Tagwranglery();
            int code = sign;
            if (sign > 0 && "tar0123456789&|!()".indexOf(sign) >= 0) {
                Check.is("24 sign " + sign, 1, y.type(code, 1));
            } else {
                Check.noArgument("24 sign " + sign, () -> y.type(code, 1));
                Check.noArgument("24 sign " + sign + " as the last one", () -> y.type((long) code << 56 | good & (1L << 56) - 1, 8));
                Check.is("24 behind the n it does not matter", 7, y.type((long) code << 56 | good & (1L << 56) - 1, 7));
            }
        }
        Tagwranglery y = new Tagwranglery();
        Check.is("24 higher bits do not matter", 1, y.type(0xffffffffffffff00L | 'r', 1));
        Check.is("24 the first one is the lowest", 3, y.type(Check.packed("1&"), 2));
        Check.is("24 they stand in their order", 3, y.fault());
    }

    private static void typeFull() {
        Tagwranglery x = new Tagwranglery();
        for (int i = 1; i <= 7; i++) {
            Check.is("24 up to 56", 8 * i, x.type(Check.packed("!!!!!!!!"), 8));
        }
        Check.noState("24 61", () -> x.type(Check.packed("!!!!!"), 5));
        Check.noArgument("24 the argument comes first", () -> x.type(Check.packed("!!!!x"), 5));
        Check.is("24 60", 60, x.type(Check.packed("!!!!"), 4));
        Check.noState("24 60 and 1", () -> x.type('!', 1));
        Check.is("24 nothing changed", 60, x.wipe());
    }

    private static void wipe() {
        Tagwranglery x = new Tagwranglery();
        Check.is("25 empty", 0, x.wipe());
        Check.type(x, "r3");
        Check.is("25 it was a query", -1, x.fault());
        Check.is("25 had 2", 2, x.wipe());
        Check.is("25 empty again", 0, x.wipe());
        Check.is("25 nothing is left", 0, x.fault());
        Check.type(x, "r");
        Check.is("25 what stood there does not count", 1, x.fault());
    }

    private static void fault() {
        String[] queries = {"t00", "t29", "a00", "a11", "a09", "r0", "r3", "!r1", "!!!a10", "(r1)", "((t19))",
            "r1&r2", "r1|r2", "r1&r2|r0&!(t00|a01)", "!(r0)&!!(r1)", "(r0|r1)&r2"};
        for (String each : queries) {
            fault(each, -1);
        }
        String[] tooShort = {"", "t", "t0", "t2", "a", "a0", "a1", "r", "!", "(", "((", "(r1", "r1&", "r1|", "(r1|r2",
            "!(", "r1&!", "((r1)", "t00&a1"};
        for (String each : tooShort) {
            fault(each, each.length());
        }
        fault("t3", 1);
        fault("t30", 1);
        fault("t2t", 2);
        fault("t000", 3);
        fault("a2", 1);
        fault("a12", 2);
        fault("a19", 2);
        fault("r4", 1);
        fault("r9", 1);
        fault("r00", 2);
        fault("rr", 1);
        fault(")", 0);
        fault("()", 1);
        fault("&", 0);
        fault("|", 0);
        fault("0", 0);
        fault("r1)", 2);
        fault("(r1))", 4);
        fault("r1(", 2);
        fault("r1!r2", 2);
        fault("r1r2", 2);
        fault("r1&&r2", 3);
        fault("r1&|r2", 3);
        fault("r1||", 3);
        fault("(r1&)", 4);
        fault("!)", 1);
        fault("!&", 1);
        fault("r1)(r1", 2);
        fault("t&", 1);
        fault("t!", 1);
        fault("a(", 1);
    }

    private static void fault(String tape, int due) {
        Tagwranglery x = new Tagwranglery();
        Check.type(x, tape);
        Check.is("26 fault of " + tape, due, x.fault());
        Check.is("26 asked again", due, x.fault());
    }

    private static void faultOfLongTapes() {
        fault("(".repeat(60), 60);
        fault("!".repeat(60), 60);
        fault("(".repeat(29) + "r1" + ")".repeat(29), -1);
        fault("(".repeat(29) + "r1" + ")".repeat(28) + "&", 60);
        fault("(".repeat(28) + "r1" + ")".repeat(30), 58);
        fault("!".repeat(58) + "r0", -1);
        fault("t00|".repeat(14) + "!t00", -1);
        fault("t00|".repeat(15), 60);
    }

    private static void searchRefusals() {
        Tagwranglery x = new Tagwranglery();
        Check.noIndex("27 search(-1)", () -> x.search(-1, true));
        Check.noIndex("27 search(32): ahead of the tape", () -> x.search(32, false));
        Check.noArgument("27 the empty tape", () -> x.search(0, false));
        Check.type(x, "r1&");
        Check.noArgument("27 a tape that is too short", () -> x.search(0, true));
        Check.type(x, "&");
        Check.noArgument("27 a tape with a fault", () -> x.search(31, true));
        Check.retype(x, "r3");
        Check.is("27 no WORKS", 0, x.search(31, true));
    }

    private static void searchRatings() {
        Tagwranglery x = new Tagwranglery();
        for (int i = 0; i < 4; i++) {
            Check.posted(x, 0, 3 - i);
        }
        search(x, "r0", 31, Check.set(3));
        search(x, "r1", 31, Check.set(2, 3));
        search(x, "r2", 31, Check.set(1, 2, 3));
        search(x, "r3", 31, Check.set(0, 1, 2, 3));
        search(x, "!r1", 31, Check.set(0, 1));
        search(x, "!!r1", 31, Check.set(2, 3));
        search(x, "!r3", 31, 0);
    }

    private static void search(Tagwranglery x, String query, int face, int due) {
        Check.retype(x, query);
        Check.is("27 " + query + " for " + face, due, x.search(face, false));
        Check.is("27 " + query + " for " + face + " by now", due, x.search(face, true));
    }

    private static void searchOwners() {
        Tagwranglery x = new Tagwranglery();
        Check.posted(x, 0, 0);
        Check.posted(x, 11, 0);
        x.join(0, 10);
        search(x, "a00", 31, Check.set(0));
        search(x, "a10", 31, Check.set(0));
        search(x, "a11", 31, Check.set(1));
        search(x, "a05", 31, 0);
        x.collection(0, 2);
        x.collect(0, 0);
        search(x, "a00", 31, 0);
        search(x, "!a00", 31, Check.set(0, 1));
        search(x, "a00", 10, Check.set(0));
        search(x, "!a00", 10, Check.set(1));
        x.pass(2);
        search(x, "a00", 31, Check.set(0));
        x.leave(0, 0);
        search(x, "a00", 31, 0);
    }

    private static void searchTags() {
        Tagwranglery x = new Tagwranglery();
        Check.posted(x, 0, 0);
        Check.posted(x, 1, 0);
        Check.posted(x, 2, 0);
        Check.tags(x, 4);
        x.put(0, 0, true);
        x.put(1, 1, true);
        search(x, "t04", 31, 0);
        search(x, "!t29", 31, Check.set(0, 1, 2));
        search(x, "t00", 31, Check.set(0));
        search(x, "t01", 31, Check.set(1));
        x.make(0);
        x.put(2, 0, true);
        search(x, "t04", 31, 0);
        search(x, "!t04", 31, Check.set(0, 1, 2));
        x.put(2, 0, false);
        Check.retype(x, "t00");
        Check.is("27 MAIN, but not filed", 0, x.search(31, false));
        Check.is("27 MAIN, by now", Check.set(0), x.search(31, true));
        x.make(2);
        x.merge(1, 2);
        x.parent(2, 0, true);
        x.merge(3, 0);
        Check.retype(x, "t03");
        Check.is("27 an ALIAS, not filed", 0, x.search(31, false));
        Check.is("27 an ALIAS, by now, with what is below", Check.set(0, 1), x.search(31, true));
        x.wave(1);
        Check.is("27 an ALIAS, one filed", Check.set(0), x.search(31, false));
        x.wave(1);
        search(x, "t03", 31, Check.set(0, 1));
        search(x, "t01", 31, Check.set(1));
        search(x, "t02", 31, Check.set(1));
        x.parent(2, 0, false);
        Check.retype(x, "t00");
        Check.is("27 as it was filed", Check.set(0, 1), x.search(31, false));
        Check.is("27 not by now", Check.set(0), x.search(31, true));
        x.put(0, 0, false);
        Check.is("27 taken off, filed at once", Check.set(1), x.search(31, false));
    }

    private static void searchLinks() {
        Tagwranglery x = new Tagwranglery();
        Check.tags(x, 3);
        for (int i = 0; i < 8; i++) {
            Check.posted(x, 0, 0);
            for (int tag = 0; tag < 3; tag++) {
                x.put(i, tag, (i >> tag & 1) != 0);
            }
        }
        search(x, "t00&t01", 31, 0b10001000);
        search(x, "t00|t01", 31, 0b11101110);
        search(x, "t00|t01&t02", 31, 0b11101010);
        search(x, "t00&t01|t02", 31, 0b11111000);
        search(x, "(t00|t01)&t02", 31, 0b11100000);
        search(x, "t02&(t00|t01)", 31, 0b11100000);
        search(x, "!t00&t01", 31, 0b01000100);
        search(x, "!(t00&t01)", 31, 0b01110111);
        search(x, "!(t00|t01)|t02", 31, 0b11110001);
        search(x, "t00&!t01&!t02", 31, 0b00000010);
        search(x, "!!(!t00)", 31, 0b01010101);
        search(x, "!(!(t00)&!(t01))", 31, 0b11101110);
        search(x, "(t00|(t01|(t02)))", 31, 0b11111110);
        search(x, "t00|!t00", 31, 0b11111111);
        search(x, "t00|t01|t02", 31, 0b11111110);
        search(x, "t00&t01&t02", 31, 0b10000000);
        search(x, "(t00|t01|t02)&!(t00&t01&t02)", 31, 0b01111110);
        search(x, "(t00)&(t01)|(t02)&!(t00)", 31, 0b11011000);
    }

    private static void searchSeen() {
        Tagwranglery x = new Tagwranglery();
        x.work(0, 0);
        Check.posted(x, 1, 0);
        Check.posted(x, 2, 0);
        x.lock(2, true);
        Check.posted(x, 3, 0);
        x.collection(1, 1);
        x.collect(3, 0);
        search(x, "r3", 31, Check.set(1));
        search(x, "r3", 11, Check.set(1, 2));
        search(x, "r3", 0, Check.set(0, 1, 2));
        search(x, "r3", 3, Check.set(1, 2, 3));
        search(x, "!r0", 31, 0);
        x.pass(1);
        search(x, "r3", 31, Check.set(1, 3));
    }

    private static void searchDeep() {
        Tagwranglery x = new Tagwranglery();
        Check.posted(x, 0, 0);
        Check.posted(x, 0, 2);
        search(x, "(".repeat(29) + "r1" + ")".repeat(29), 31, Check.set(0));
        search(x, "!(".repeat(19) + "r1" + ")".repeat(19), 31, Check.set(1));
        search(x, "!".repeat(58) + "r1", 31, Check.set(0));
        search(x, "!".repeat(57) + "r1", 31, Check.set(1));
        search(x, "(r0&".repeat(11) + "r1" + ")".repeat(11), 31, Check.set(0));
    }

    private static void result() {
        Tagwranglery x = new Tagwranglery();
        Check.noIndex("28 result(-1, 0)", () -> x.result(-1, 0));
        Check.noIndex("28 result(32, 0)", () -> x.result(32, 0));
        Check.noIndex("28 result(0, -1): ahead of the tape", () -> x.result(0, -1));
        Check.noArgument("28 the empty tape", () -> x.result(0, 0));
        Check.type(x, "r0");
        Check.is("28 no WORKS", -1, x.result(0, 0));
        Check.posted(x, 0, 0);
        Check.posted(x, 0, 1);
        Check.posted(x, 0, 0);
        Check.is("28 first", 0, x.result(31, 0));
        Check.is("28 second", 2, x.result(31, 1));
        Check.is("28 no third", -1, x.result(31, 2));
        Check.is("28 far behind", -1, x.result(31, Integer.MAX_VALUE));
        x.make(x.tag());
        x.put(2, 0, true);
        x.make(x.tag());
        x.merge(0, 1);
        Check.retype(x, "t00");
        Check.is("28 by what they are FILED under, not by now", -1, x.result(31, 0));
        x.wave(20);
        Check.is("28 after the wave", 2, x.result(31, 0));
    }

    private static void resultOrder() {
        Tagwranglery x = new Tagwranglery();
        x.work(0, 0);
        Check.posted(x, 0, 0);
        x.work(0, 0);
        x.chapter(2);
        Check.posted(x, 0, 0);
        x.work(0, 0);
        x.chapter(4);
        x.pass(5);
        x.post(4);
        x.work(0, 0);
        x.chapter(5);
        x.post(5);
        x.pass(1);
        x.chapter(3);
        x.chapter(2);
        Check.type(x, "r0");
        order(x, 0, 3, 4, 5, 1, 0, 2);
        order(x, 31, 3, 4, 5, 1);
        x.post(2);
        order(x, 0, 2, 3, 4, 5, 1, 0);
        order(x, 31, 2, 3, 4, 5, 1);
        x.collection(6, 7);
        x.collection(7, 7);
        x.collect(4, 1);
        order(x, 31, 2, 3, 5, 1);
        order(x, 0, 2, 3, 4, 5, 1, 0);
    }

    private static void order(Tagwranglery x, int face, int... works) {
        for (int place = 0; place < works.length; place++) {
            Check.is("28 result(" + face + ", " + place + ")", works[place], x.result(face, place));
        }
        Check.is("28 behind the last one", -1, x.result(face, works.length));
    }
}
