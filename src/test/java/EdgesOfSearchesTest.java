import java.util.function.Consumer;

/** The boundary cases of promises 24 to 28 and of the terms of searches. */
public final class EdgesOfSearchesTest {
    private static final String SIGNS = "tar0123456789&|!()";
    private static final Consumer<Tagwranglery> WITH_QUERY = x -> {
        Check.posted(x, 0, 0);
        Check.type(x, "r3");
    };

    public static void main(String[] args) {
        type();
        typeSigns();
        typeFull();
        wipe();
        fault();
        figures();
        grammar();
        longTapes();
        shortTapes();
        searchRefusals();
        search();
        soByLinks();
        soByRatingAndOwner();
        soByTag();
        result();
        resultOrder();
        Edge.end(24, 28, "Searches");
    }

    private static void type() {
        Edge.outOfRange(24, "if n is out of range", "n", 1, 8, x -> { }, (x, n) -> x.type(Check.packed("(((((((("), n));
        Edge.of(24, "1 to 8", "1", x -> Check.is("type('(', 1)", 1, x.type('(', 1)));
        Edge.of(24, "1 to 8", "8", x -> {
            Check.is("type(.., 8)", 8, x.type(Check.packed("t00&!a01"), 8));
            Check.is("all 8 in their order", -1, x.fault());
        });
        Edge.of(24, "the first one in the lowest 8 bits, and so on", "the second one in the next", x -> {
            x.type('t' | '2' << 8 | '9' << 16, 3);
            Check.is("t29", -1, x.fault());
        });
        Edge.of(24, "the first one in the lowest 8 bits, and so on", "the eighth one in the highest", x -> {
            x.type(Check.packed("!!!!!!!r"), 8);
            Check.is("fault()", 8, x.fault());
            x.type('0', 1);
            Check.is("fault() with its figure", -1, x.fault());
        });
        Edge.of(24, "bits beyond the n characters do not matter", "all are set", x -> {
            Check.is("type(.., 1)", 1, x.type(-256L | 'r', 1));
            Check.is("type(.., 1)", 2, x.type(-256L | '3', 1));
            Check.is("fault()", -1, x.fault());
        });
        Edge.of(24, "bits beyond the n characters do not matter", "7 of 8", x -> {
            Check.is("type(.., 7)", 7, x.type(0xffL << 56 | Check.packed("t00&t01"), 7));
            Check.is("fault()", -1, x.fault());
        });
        Edge.of(24, "Returns how many the tape has then.", "not how many were typed", x -> {
            x.type('(', 1);
            Check.is("type(.., 2)", 3, x.type(Check.packed("r0"), 2));
        });
        Edge.of(24, "Types characters.", "behind those that are there", x -> {
            x.type('r', 1);
            x.type('1', 1);
            Check.is("r1", -1, x.fault());
        });
    }

    private static void typeSigns() {
        String words = "or one of the n characters cannot be on the tape";
        for (int sign = 0; sign < 256; sign++) {
            int code = sign;
            if (sign > 0 && SIGNS.indexOf(sign) >= 0) {
                Edge.term("t, a, r, figures, &, |, !, ( and )", "sign " + sign, x -> Check.is("type", 1, x.type(code, 1)));
                continue;
            }
            Edge.of(24, words, "sign " + sign, x -> {
                Check.noArgument("alone", () -> x.type(code, 1));
                Check.noArgument("as the first one", () -> x.type(code | '(' << 8, 2));
                Check.noArgument("as the eighth one", () -> x.type((long) code << 56 | Check.packed("((((((("), 8));
                Check.is("none was typed", 0, x.wipe());
            });
        }
    }

    private static void typeFull() {
        String full = "if the tape would have more than 60";
        for (int n = 1; n <= 8; n++) {
            int count = n;
            Edge.of(24, full, "60 by the last " + n, x -> {
                exclamations(x, 60 - count);
                Check.is("type(.., " + count + ")", 60, x.type(Check.packed("!!!!!!!!"), count));
            });
            Edge.of(24, full, "61 by the last " + n, x -> {
                exclamations(x, 61 - count);
                Check.noState("type(.., " + count + ")", () -> x.type(Check.packed("!!!!!!!!"), count));
                Check.is("none of them was typed", 61 - count, x.wipe());
            });
        }
        Edge.term("The tape has at most 60 characters", "each of the 60 counts", x -> {
            Check.type(x, "!".repeat(58) + "r0");
            Check.is("fault()", -1, x.fault());
            Check.is("wipe()", 60, x.wipe());
        });
    }

    private static void exclamations(Tagwranglery x, int count) {
        Check.type(x, "!".repeat(count));
    }

    private static void wipe() {
        String words = "Empties the tape; returns how many characters it had.";
        Edge.of(25, words, "empty", x -> Check.is("wipe()", 0, x.wipe()));
        Edge.of(25, words, "full", x -> {
            exclamations(x, 60);
            Check.is("wipe()", 60, x.wipe());
            Check.is("wipe() again", 0, x.wipe());
        });
        Edge.of(25, words, "there is room for 60 again", x -> {
            exclamations(x, 60);
            x.wipe();
            exclamations(x, 56);
            Check.is("type(.., 4)", 60, x.type(Check.packed("!!!!"), 4));
        });
        for (String before : new String[] {"((", "r0)", "t2", "a", "r", "r0&", "!", "(r0|t29&!"}) {
            Edge.of(25, words, "asked for its fault, then without " + before, x -> {
                Check.type(x, before);
                x.fault();
                Check.retype(x, "r0");
                Check.is("fault()", -1, x.fault());
                Check.is("search(0, true)", 0, x.search(0, true));
            });
        }
        Edge.of(25, words, "what stood there is no part of what comes", x -> {
            Check.type(x, "r3");
            x.wipe();
            Check.is("fault() of none", 0, x.fault());
            x.type('r', 1);
            Check.is("fault() of r", 1, x.fault());
        });
    }

    private static void fault() {
        String none = "NONE, if it is a query";
        for (String each : new String[] {"t00", "a00", "r0", "!r0", "(r0)", "r0&r0", "r0|r0"}) {
            tape(none, each, -1);
        }
        String tooShort = "or its length, if it is only too short";
        for (String each : new String[] {"", "t", "t0", "a", "a1", "r", "!", "(", "(r0", "r0&", "r0|", "((r0)", "r0&(", "t00|a1"}) {
            tape(tooShort, each, each.length());
        }
        String place = "the place, from 0 on, of the first character with which it cannot be the beginning of a query";
        tape(place, ")", 0);
        tape(place, "r4", 1);
        tape(place, "t00t", 3);
        tape(place, "))))", 0);
        tape(place, "t00&)", 4);
        tape(place, "(r0))(", 4);
        tape(place, "t9r", 1);
        Edge.of(26, "Returns the fault of the tape.", "a fault stays, whatever comes behind it", x -> {
            Check.type(x, "r0r");
            Check.is("fault()", 2, x.fault());
            Check.type(x, "0&r0");
            Check.is("fault() with more", 2, x.fault());
        });
        Edge.of(26, "Returns the fault of the tape.", "asked twice", x -> {
            Check.type(x, "((r0)");
            Check.is("fault()", 5, x.fault());
            Check.is("fault() again", 5, x.fault());
        });
    }

    private static void tape(String words, String tape, int due) {
        Edge.term(words, "the tape " + tape, x -> {
            Check.type(x, tape);
            Check.is("fault()", due, x.fault());
        });
    }

    /** All figures behind each letter. */
    private static void figures() {
        for (int number = 0; number < 100; number++) {
            String two = (char) ('0' + number / 10) + "" + (char) ('0' + number % 10);
            tape("t and two figures that are 00 to 29", "t" + two, number < 30 ? -1 : 1);
            int fault = number < 12 ? -1 : number < 20 ? 2 : 1;
            tape("a and two figures that are 00 to 11", "a" + two, fault);
        }
        for (int number = 0; number < 10; number++) {
            tape("r and a figure that is 0 to 3", "r" + number, number < 4 ? -1 : 1);
        }
        tape("t and two figures that are 00 to 29", "t000", 3);
        tape("a and two figures that are 00 to 11", "a000", 3);
        tape("r and a figure that is 0 to 3", "r00", 2);
        for (String each : new String[] {"&", "|", "!", "(", ")", "t", "a", "r"}) {
            tape("t and two figures that are 00 to 29", "t" + each, 1);
            tape("t and two figures that are 00 to 29", "t0" + each, 2);
            tape("a and two figures that are 00 to 11", "a" + each, 1);
            tape("a and two figures that are 00 to 11", "a0" + each, 2);
            tape("r and a figure that is 0 to 3", "r" + each, 1);
        }
    }

    private static void grammar() {
        String parts = "A query is one part or more, with | between each two";
        tape(parts, "r0|r1|r2", -1);
        tape(parts, "|", 0);
        tape(parts, "|r0", 0);
        tape(parts, "r0||r1", 3);
        tape(parts, "r0|r1|", 6);
        String items = "a part is one item or more, with & between each two";
        tape(items, "r0&r1&r2", -1);
        tape(items, "&", 0);
        tape(items, "&r0", 0);
        tape(items, "r0&&r1", 3);
        tape(items, "r0&|r1", 3);
        tape(items, "r0|&r1", 3);
        tape(items, "r0r1", 2);
        tape(items, "r0&r1&", 6);
        String not = "an item is ! and an item";
        tape(not, "!!!r0", -1);
        tape(not, "!(r0)", -1);
        tape(not, "!r0&!r1|!r2", -1);
        tape(not, "r0!", 2);
        tape(not, "r0!r1", 2);
        tape(not, "!&r0", 1);
        tape(not, "!|r0", 1);
        tape(not, "!)", 1);
        String round = "(, a query and )";
        tape(round, "(r0|r1&r2)", -1);
        tape(round, "((r0))", -1);
        tape(round, "(r0)&(r1)", -1);
        tape(round, "()", 1);
        tape(round, "(&", 1);
        tape(round, "(|", 1);
        tape(round, "(r0&)", 4);
        tape(round, "(r0|)", 4);
        tape(round, "(!)", 2);
        tape(round, "r0)", 2);
        tape(round, "(r0)r1", 4);
        tape(round, "(r0)(r1)", 4);
        tape(round, "(r0)!r1", 4);
        tape(round, "r0(r1)", 2);
        String item = "an item is ! and an item, or (, a query and ), or t and two figures";
        tape(item, "0", 0);
        tape(item, "9", 0);
        tape(item, "r0&0", 3);
    }

    private static void longTapes() {
        String none = "NONE, if it is a query";
        tape(none, "(".repeat(29) + "r0" + ")".repeat(29), -1);
        tape(none, "!".repeat(58) + "r0", -1);
        tape(none, "r0&".repeat(19) + "t00", -1);
        tape(none, "r0|".repeat(19) + "!r0", -1);
        String tooShort = "or its length, if it is only too short";
        tape(tooShort, "(".repeat(60), 60);
        tape(tooShort, "!".repeat(60), 60);
        tape(tooShort, "r0&".repeat(20), 60);
        tape(tooShort, "(".repeat(30) + "r0" + ")".repeat(28), 60);
        tape(tooShort, "t00|".repeat(14) + "!!t2", 60);
        String place = "the first character with which it cannot be the beginning of a query";
        tape(place, "!".repeat(59) + ")", 59);
        tape(place, "(".repeat(58) + "r4", 59);
        tape(place, "(".repeat(28) + "r0" + ")".repeat(30), 58);
        tape(place, ")".repeat(60), 0);
    }

    /** Each tape of up to four signs, and the same behind an item in a parenthesis, beside the model. */
    private static void shortTapes() {
        String signs = "tar0239&|!()";
        int count = 1;
        for (int length = 0; length <= 4; length++) {
            for (int number = 0; number < count; number++) {
                StringBuilder text = new StringBuilder();
                for (int i = 0, left = number; i < length; i++, left /= signs.length()) {
                    text.append(signs.charAt(left % signs.length()));
                }
                besideModel(text.toString());
                besideModel("(t00" + text);
            }
            count *= signs.length();
        }
    }

    private static void besideModel(String tape) {
        Model model = new Model();
        model.tape = tape;
        tape("The fault of the tape is the place", tape, Integer.parseInt(model.call("fault", new long[0])));
    }

    private static void searchRefusals() {
        Edge.noSuch(27, "if there is no such FACE", "the FACE", 32, WITH_QUERY, (x, face) -> x.search(face, false));
        for (boolean byNow : new boolean[] {true, false}) {
            Edge.of(27, "if the tape is no query", "empty, " + byNow, x -> Check.noArgument("search", () -> x.search(0, byNow)));
            Edge.of(27, "if the tape is no query", "too short, " + byNow, x -> {
                Check.type(x, "r0|");
                Check.noArgument("search", () -> x.search(31, byNow));
            });
            Edge.of(27, "if the tape is no query", "with a fault, " + byNow, x -> {
                Check.type(x, "r0)");
                Check.noArgument("search", () -> x.search(31, byNow));
            });
        }
        Edge.of(27, "if the tape is no query", "it becomes one by its last character", x -> {
            x.type('r', 1);
            Check.noArgument("search", () -> x.search(0, true));
            x.type('0', 1);
            Check.is("search", 0, x.search(0, true));
        });
    }

    private static void search() {
        String words = "Returns the set of the WORKS that a FACE SEES and of which the query on the tape is so.";
        Edge.of(27, words, "without WORKS", x -> {
            found(x, "r3", 0, 0);
            found(x, "!r3", 0, 0);
        });
        Edge.of(27, words, "all 20 WORKS", x -> {
            for (int work = 0; work < 20; work++) {
                Check.posted(x, 0, 3);
            }
            Check.type(x, "r3");
            Check.is("search(31, false)", (1 << 20) - 1, x.search(31, false));
        });
        Edge.of(27, words, "a query that is never so", x -> {
            WITH_QUERY.accept(x);
            Check.retype(x, "!r3");
            Check.is("search(31, false)", 0, x.search(31, false));
        });
        Edge.of(27, words, "a draft is found by its OWNER alone", x -> {
            x.work(5, 0);
            Check.type(x, "r3");
            Check.is("search(5, true)", 1, x.search(5, true));
            Check.is("search(6, true)", 0, x.search(6, true));
        });
        Edge.of(27, words, "a WORK that is not SEEN is not found by !", x -> {
            x.work(5, 0);
            Check.type(x, "!a05");
            Check.is("search(6, true)", 0, x.search(6, true));
        });
        Edge.of(27, "whether it is asked where WORKS BELONG, in place of what they are FILED under", "both ways", x -> {
            tagged(x);
            x.parent(0, 1, true);
            Check.retype(x, "t01");
            Check.is("search(31, false)", 0, x.search(31, false));
            Check.is("search(31, true)", 1, x.search(31, true));
            x.wave(1);
            x.parent(0, 1, false);
            Check.is("search(31, false), cut", 1, x.search(31, false));
            Check.is("search(31, true), cut", 0, x.search(31, true));
        });
    }

    /** A POSTED WORK with the MAIN TAG 0; TAG 1 is MAIN, TAG 2 FREE. */
    private static void tagged(Tagwranglery x) {
        Check.posted(x, 0, 0);
        Check.mainTags(x, 2);
        x.tag();
        x.put(0, 0, true);
    }

    private static void found(Tagwranglery x, String query, int face, int due) {
        Check.retype(x, query);
        Check.is(query + " for " + face, due, x.search(face, false));
        Check.is(query + " for " + face + " by now", due, x.search(face, true));
    }

    private static void so(String words, String query, int due) {
        Edge.term(words, query, x -> {
            for (int rating = 0; rating < 4; rating++) {
                Check.posted(x, rating, rating);
            }
            found(x, query, 31, due);
        });
    }

    private static void soByLinks() {
        String or = "| if one of its parts is";
        so(or, "a00|a01", 0b0011);
        so(or, "a00|a01|a02|a03", 0b1111);
        so(or, "a00|a05", 0b0001);
        so(or, "a05|a00", 0b0001);
        so(or, "a05|a06", 0b0000);
        so(or, "a00|r1&a01", 0b0011);
        so(or, "r1&a01|a03", 0b1010);
        String and = "& if all of its items are";
        so(and, "r2&!r0", 0b0110);
        so(and, "r2&!r0&!a01", 0b0100);
        so(and, "r3&a05", 0b0000);
        so(and, "a05&r3", 0b0000);
        so(and, "(a00|a01)&(a01|a02)", 0b0010);
        so(and, "a00|a01&a01|a02", 0b0111);
        String not = "! if its item is not";
        so(not, "!a00", 0b1110);
        so(not, "!!a00", 0b0001);
        so(not, "!!!a00", 0b1110);
        so(not, "!a00&a01", 0b0010);
        so(not, "!a00|a00", 0b1111);
        so(not, "!(a00|a01)", 0b1100);
        so(not, "!(a00)|a00", 0b1111);
        so(not, "!(!(!(a00)))", 0b1110);
        so(not, "(!a00)", 0b1110);
        so(not, "!(r0)&r1", 0b0010);
        so(not, "!".repeat(58) + "r0", 0b0001);
        so(not, "!".repeat(57) + "r0", 0b1110);
        so(not, "(".repeat(29) + "r0" + ")".repeat(29), 0b0001);
        so(not, "!(".repeat(19) + "r0" + ")".repeat(19), 0b1110);
        so(not, "a00|(".repeat(9) + "a01" + ")".repeat(9), 0b0011);
    }

    private static void soByRatingAndOwner() {
        String rating = "an r if the RATING is at most its figure";
        so(rating, "r0", 0b0001);
        so(rating, "r1", 0b0011);
        so(rating, "r2", 0b0111);
        so(rating, "r3", 0b1111);
        String owner = "an a if the PERSON is an OWNER, and the OWNERS are TOLD to the FACE";
        Edge.term(owner, "the first and the last PERSON", x -> {
            Check.posted(x, 0, 0);
            Check.posted(x, 11, 0);
            found(x, "a00", 31, Check.set(0));
            found(x, "a11", 31, Check.set(1));
            found(x, "a10", 31, 0);
        });
        Edge.term(owner, "one of three", x -> {
            Check.posted(x, 0, 0);
            x.join(0, 5);
            x.join(0, 11);
            found(x, "a00&a05&a11", 31, 1);
            x.leave(0, 5);
            found(x, "a05", 31, 0);
        });
        for (int day : new int[] {4, 5}) {
            Edge.term(owner, "a collection that names on 5, on " + day, x -> {
                Check.posted(x, 3, 0);
                x.collection(0, 5);
                x.collect(0, 0);
                x.pass(day);
                found(x, "a03", 31, day == 5 ? 1 : 0);
                found(x, "!a03", 31, day == 5 ? 0 : 1);
                found(x, "a03", 3, 1);
                found(x, "!a03", 3, 0);
            });
        }
        Edge.term(owner, "none of a WORK without OWNERS", x -> {
            Check.posted(x, 3, 0);
            x.leave(0, 3);
            found(x, "a03", 31, 0);
            found(x, "!a03", 31, 1);
        });
    }

    private static void soByTag() {
        String noSuch = "a t, if there is no such TAG, never";
        Edge.term(noSuch, "the number behind the last one", x -> {
            tagged(x);
            found(x, "t03", 31, 0);
            found(x, "!t03", 31, 1);
            found(x, "t29", 31, 0);
        });
        Edge.term(noSuch, "without TAGS", x -> {
            Check.posted(x, 0, 0);
            found(x, "t00", 31, 0);
            found(x, "!t00", 31, 1);
        });
        String free = "if it is FREE, if the WORK has it";
        Edge.term(free, "it has it, then not", x -> {
            tagged(x);
            found(x, "t02", 31, 0);
            x.put(0, 2, true);
            found(x, "t02", 31, 1);
            x.put(0, 2, false);
            found(x, "t02", 31, 0);
        });
        Edge.term(free, "the last TAG", x -> {
            Check.posted(x, 0, 0);
            Check.tags(x, 30);
            x.put(0, 29, true);
            found(x, "t29", 31, 1);
            found(x, "t28", 31, 0);
        });
        String meaning = "otherwise if the WORK is FILED under its MEANING, or, by now, BELONGS under it";
        Edge.term(meaning, "MAIN", x -> {
            tagged(x);
            found(x, "t00", 31, 1);
            found(x, "t01", 31, 0);
        });
        Edge.term(meaning, "ABOVE, and not below", x -> {
            tagged(x);
            x.parent(0, 1, true);
            x.wave(1);
            found(x, "t01", 31, 1);
            x.put(0, 0, false);
            x.put(0, 1, true);
            found(x, "t01", 31, 1);
            found(x, "t00", 31, 0);
        });
        Edge.term(meaning, "an ALIAS that the WORK has not", x -> {
            tagged(x);
            x.merge(2, 0);
            x.wave(1);
            found(x, "t02", 31, 1);
        });
        Edge.term(meaning, "one that was FREE and is MAIN since", x -> {
            tagged(x);
            x.put(0, 2, true);
            x.make(2);
            Check.retype(x, "t02");
            Check.is("FILED", 0, x.search(31, false));
            Check.is("by now", 1, x.search(31, true));
        });
        Edge.term(meaning, "one that was MAIN and is an ALIAS since", x -> {
            tagged(x);
            x.merge(0, 1);
            Check.retype(x, "t00");
            Check.is("FILED under the old one", 0, x.search(31, false));
            Check.is("by now under the new one", 1, x.search(31, true));
        });
    }

    private static void result() {
        Edge.noSuch(28, "if there is no such FACE", "the FACE", 32, WITH_QUERY, (x, face) -> x.result(face, 0));
        for (int place : new int[] {-1, Integer.MIN_VALUE}) {
            Edge.of(28, "or place is below 0", "place " + place, x -> {
                WITH_QUERY.accept(x);
                Check.noIndex("result(0, " + place + ")", () -> x.result(0, place));
            });
        }
        for (String tape : new String[] {"", "r3|", "r3)"}) {
            Edge.of(28, "if the tape is no query", "the tape " + tape, x -> {
                Check.posted(x, 0, 0);
                Check.type(x, tape);
                Check.noArgument("result(0, 0)", () -> x.result(0, 0));
            });
        }
        Edge.of(28, "0 for the first one", "the first one", x -> {
            WITH_QUERY.accept(x);
            Check.is("result(31, 0)", 0, x.result(31, 0));
        });
        String none = "NONE if there are not so many";
        Edge.of(28, none, "none is found", x -> {
            Check.type(x, "r3");
            Check.is("result(0, 0)", -1, x.result(0, 0));
        });
        Edge.of(28, none, "one behind the last one", x -> {
            WITH_QUERY.accept(x);
            Check.is("result(31, 1)", -1, x.result(31, 1));
        });
        Edge.of(28, none, "farthest behind", x -> {
            WITH_QUERY.accept(x);
            Check.is("result(31, greatest)", -1, x.result(31, Integer.MAX_VALUE));
            Check.is("result(31, 32)", -1, x.result(31, 32));
        });
        Edge.of(28, none, "the last of 20, and behind it", x -> {
            for (int work = 0; work < 20; work++) {
                Check.posted(x, 0, 3);
            }
            Check.type(x, "r3");
            Check.is("result(31, 19)", 19, x.result(31, 19));
            Check.is("result(31, 20)", -1, x.result(31, 20));
        });
    }

    private static void resultOrder() {
        String filed = "Returns a WORK of the same by what they are FILED under";
        Edge.of(28, filed, "not by now", x -> {
            tagged(x);
            x.parent(0, 1, true);
            Check.type(x, "t01");
            Check.is("result(31, 0)", -1, x.result(31, 0));
            x.wave(1);
            Check.is("result(31, 0) after a wave", 0, x.result(31, 0));
        });
        Edge.of(28, filed, "those that the FACE SEES", x -> {
            x.work(0, 0);
            Check.posted(x, 0, 0);
            Check.type(x, "r3");
            Check.is("result(31, 0)", 1, x.result(31, 0));
            Check.is("result(31, 1)", -1, x.result(31, 1));
        });
        Edge.of(28, "0 for the first one", "WORKS ahead of it that are not found do not count", x -> {
            Check.posted(x, 0, 0);
            x.pass(1);
            Check.posted(x, 0, 3);
            Check.posted(x, 0, 0);
            x.lock(2, true);
            Check.type(x, "r0");
            Check.is("result(31, 0)", 0, x.result(31, 0));
            Check.is("result(31, 1)", -1, x.result(31, 1));
        });
        Edge.of(28, "in the order of falling LATEST", "20 WORKS, each a DAY later", x -> {
            for (int work = 0; work < 20; work++) {
                Check.posted(x, 0, 0);
                x.pass(1);
            }
            Check.type(x, "r3");
            for (int place = 0; place < 20; place++) {
                Check.is("result(31, " + place + ")", 19 - place, x.result(31, place));
            }
        });
        Edge.of(28, "(drafts behind all others)", "one POSTED on DAY 0 is ahead of a draft with later chapters", x -> {
            x.work(0, 0);
            Check.posted(x, 0, 0);
            x.pass(100);
            x.chapter(0);
            Check.type(x, "r3");
            Check.is("result(0, 0)", 1, x.result(0, 0));
            Check.is("result(0, 1)", 0, x.result(0, 1));
        });
        Edge.of(28, "(drafts behind all others)", "drafts are alike, whatever chapters they have", x -> {
            x.work(0, 0);
            x.work(0, 0);
            x.pass(100);
            x.chapter(1);
            Check.type(x, "r3");
            Check.is("result(0, 0)", 0, x.result(0, 0));
            Check.is("result(0, 1)", 1, x.result(0, 1));
        });
        Edge.of(28, "of alike ones the lowest number first", "of the same LATEST by unlike ways", x -> {
            Check.posted(x, 0, 0);
            x.work(0, 0);
            x.chapter(1);
            x.pass(5);
            x.post(1);
            x.chapter(0);
            Check.type(x, "r3");
            Check.is("result(31, 0)", 0, x.result(31, 0));
            Check.is("result(31, 1)", 1, x.result(31, 1));
        });
    }
}
