import java.util.LinkedHashMap;
import java.util.Map;
import java.util.function.IntConsumer;

/** The boundary cases of promises 1 to 4, of FACES and days, and of an object's 512 calls. */
public final class EdgesOfDaysTest {
    private static final int MOST_CALLS = 512;

    public static void main(String[] args) {
        newObject();
        day();
        pass();
        faces();
        people();
        block();
        same();
        sameOfMany();
        lastCalls();
        Edge.end(1, 4, "FACES, days", "An archive of stories by those who love them:");
    }

    private static void newObject() {
        Edge.of(1, "on the DAY 0", "a day on it is DAY 1", x -> Check.is("pass(1)", 1, x.pass(1)));
        Edge.of(1, "on the DAY 0", "a collection that opens on DAY 0 is open", x -> {
            x.collection(0, 0);
            x.collect(Check.posted(x, 0, 0), 0);
            Check.is("sees(31, 0)", true, x.sees(31, 0));
        });
        Edge.of(1, "without WORKS", "there is no WORK 0", x -> Check.noIndex("liked(0)", () -> x.liked(0)));
        Edge.of(1, "without WORKS", "the first one is 0", x -> Check.is("work(0, 0)", 0, x.work(0, 0)));
        Edge.of(1, "TAGS", "there is no TAG 0", x -> Check.noIndex("ofTag(0, 0)", () -> x.ofTag(0, 0)));
        Edge.of(1, "TAGS", "the first one is 0", x -> Check.is("tag()", 0, x.tag()));
        Edge.of(1, "collections", "there is no collection 0", x -> {
            x.work(0, 0);
            Check.noIndex("collect(0, 0)", () -> x.collect(0, 0));
        });
        Edge.of(1, "collections", "the first one is 0", x -> Check.is("collection(0, 0)", 0, x.collection(0, 0)));
        Edge.of(1, "SIGNS", "there is no SIGN 0", x -> Check.noIndex("match(0)", () -> x.match(0)));
        Edge.of(1, "SIGNS", "the first one is 0", x -> Check.is("sign(0, 0, 0, 0)", 0, x.sign(0, 0, 0, 0)));
        Edge.of(1, "comments", "there is no comment 0", x -> Check.noIndex("change(0, 0)", () -> x.change(0, 0)));
        Edge.of(1, "comments", "the first one is 0", x -> {
            x.work(0, 0);
            Check.is("comment(0, 0, -1)", 0, x.comment(0, 0, -1));
        });
        Edge.of(1, "the tape is empty", "it has no character", x -> Check.is("wipe()", 0, x.wipe()));
        Edge.of(1, "the tape is empty", "it is too short at 0", x -> Check.is("fault()", 0, x.fault()));
        Edge.of(1, "Creates an archive", "two of them share nothing", x -> {
            Tagwranglery other = new Tagwranglery();
            x.pass(7);
            x.work(0, 0);
            x.tag();
            x.type('(', 1);
            Check.is("the other's pass(1)", 1, other.pass(1));
            Check.is("the other's work(0, 0)", 0, other.work(0, 0));
            Check.is("the other's tag()", 0, other.tag());
            Check.is("the other's wipe()", 0, other.wipe());
        });
    }

    private static void day() {
        Edge.term("The DAY is 0 at first.", "a chapter of then is not OUT on DAY 1 for the first time", x -> {
            Check.posted(x, 0, 0);
            x.subscribe(1, false, 0);
            x.pass(1);
            x.subscribe(2, false, 0);
            Check.is("news of DAY 0", 1, x.news(1));
            Check.is("news of DAY 1", 0, x.news(2));
        });
    }

    private static void pass() {
        String range = "1 to 100";
        Edge.of(2, range, "the least", x -> Check.is("pass(1)", 1, x.pass(1)));
        Edge.of(2, range, "the most", x -> Check.is("pass(100)", 100, x.pass(100)));
        Edge.of(2, "Returns the DAY.", "not the days that passed", x -> {
            x.pass(100);
            Check.is("pass(1)", 101, x.pass(1));
        });
        Edge.of(2, "Lets days pass.", "as many as told", x -> {
            x.collection(100, 100);
            x.collect(Check.posted(x, 0, 0), 0);
            x.pass(99);
            Check.is("sees on 99", false, x.sees(31, 0));
            x.pass(1);
            Check.is("sees on 100", true, x.sees(31, 0));
        });
        Edge.outOfRange(2, "if days is out of range", "pass", 1, 100, x -> { }, (x, days) -> x.pass(days));
        Edge.of(2, "if it would be above 2000", "2000 is not above", x -> {
            Check.pass(x, 1900);
            Check.is("pass(100) on 1900", 2000, x.pass(100));
        });
        Edge.of(2, "if it would be above 2000", "2001 by the most days", x -> {
            Check.pass(x, 1901);
            Check.noState("pass(100) on 1901", () -> x.pass(100));
            Check.is("pass(99) after that", 2000, x.pass(99));
        });
        Edge.of(2, "if it would be above 2000", "2001 by one day", x -> {
            Check.pass(x, 2000);
            Check.noState("pass(1) on 2000", () -> x.pass(1));
        });
    }

    private static void faces() {
        String words = "FACES are 0 to 31";
        for (int face : new int[] {0, 31}) {
            Edge.term(words, "FACE " + face + " is one", x -> callsWithFace(x).forEach((name, call) -> {
                call.accept(face);
                Check.note(true, name);
            }));
        }
        for (int face : new int[] {-1, 32, 63, 64, Integer.MIN_VALUE, Integer.MAX_VALUE}) {
            Edge.term(words, "FACE " + face + " is none",
                    x -> callsWithFace(x).forEach((name, call) -> Check.noIndex(name, () -> call.accept(face))));
        }
    }

    /** All calls that take a FACE, on an archive where each one may be made once. */
    private static Map<String, IntConsumer> callsWithFace(Tagwranglery x) {
        Check.posted(x, 3, 0);
        Check.type(x, "r3");
        Map<String, IntConsumer> calls = new LinkedHashMap<>();
        calls.put("sees", face -> x.sees(face, 0));
        calls.put("owners", face -> x.owners(face, 0));
        calls.put("search", face -> x.search(face, true));
        calls.put("result", face -> x.result(face, 0));
        calls.put("comment", face -> x.comment(0, face, -1));
        calls.put("reads", face -> x.reads(0, face));
        calls.put("kudos", face -> x.kudos(0, face));
        calls.put("same, the first one", face -> x.same(face, 5));
        calls.put("same, the second one", face -> x.same(5, face));
        return calls;
    }

    private static void people() {
        String words = "those from 0 to 11 are PEOPLE";
        for (int person : new int[] {0, 11}) {
            Edge.term(words, "FACE " + person + " is one of them", x -> callsWithPerson(x).forEach((name, call) -> {
                call.accept(person);
                Check.note(true, name);
            }));
        }
        for (int person : new int[] {-1, 12, 31, 32, 64, Integer.MIN_VALUE, Integer.MAX_VALUE}) {
            Edge.term(words, person + " is none of them",
                    x -> callsWithPerson(x).forEach((name, call) -> Check.noIndex(name, () -> call.accept(person))));
        }
        Edge.term(words, "a LOCKED WORK tells 11 from 12", x -> {
            Check.posted(x, 3, 0);
            x.lock(0, true);
            Check.is("sees(11, 0)", true, x.sees(11, 0));
            Check.is("sees(12, 0)", false, x.sees(12, 0));
        });
    }

    /** All calls that take a PERSON, on an archive where each one may be made once. */
    private static Map<String, IntConsumer> callsWithPerson(Tagwranglery x) {
        Check.posted(x, 3, 0);
        Map<String, IntConsumer> calls = new LinkedHashMap<>();
        calls.put("block, the first one", person -> x.block(person, 5, true));
        calls.put("block, the second one", person -> x.block(5, person, true));
        calls.put("work", person -> x.work(person, 0));
        calls.put("join", person -> x.join(0, person));
        calls.put("leave", person -> x.leave(0, person));
        calls.put("sign", person -> x.sign(person, 0, 0, 0));
        calls.put("subscribe, who does", person -> x.subscribe(person, false, 0));
        calls.put("subscribe, the other one", person -> x.subscribe(5, true, person));
        calls.put("news", person -> x.news(person));
        calls.put("digest", person -> x.digest(person));
        return calls;
    }

    private static void block() {
        String either = "if there is no such PERSON, of either";
        Edge.noSuch(3, either, "the first one", 12, x -> { }, (x, person) -> x.block(person, 0, true));
        Edge.noSuch(3, either, "the second one", 12, x -> { }, (x, person) -> x.block(0, person, false));
        Edge.of(3, "if both are the same", "the first PERSON", x -> Check.noArgument("block(0, 0, true)", () -> x.block(0, 0, true)));
        Edge.of(3, "if both are the same", "the last PERSON", x -> Check.noArgument("block(11, 11, true)", () -> x.block(11, 11, true)));
        Edge.of(3, "if both are the same", "also to end it", x -> Check.noArgument("block(5, 5, false)", () -> x.block(5, 5, false)));
        Edge.of(3, "if both are the same", "two that are the SAME are two", x -> {
            x.same(4, 5);
            Check.is("block(4, 5, true)", false, x.block(4, 5, true));
        });
        Edge.of(3, "Returns whether it was so.", "not at first", x -> Check.is("block", false, x.block(0, 11, true)));
        Edge.of(3, "Returns whether it was so.", "on, and on again", x -> {
            x.block(0, 11, true);
            Check.is("on again", true, x.block(0, 11, true));
        });
        Edge.of(3, "Returns whether it was so.", "the other way is not this one", x -> {
            x.block(0, 11, true);
            Check.is("the other way", false, x.block(11, 0, true));
        });
        Edge.of(3, "Tells whether a PERSON BLOCKS another one, from now on.", "what came before stays", x -> {
            Check.posted(x, 0, 0);
            x.comment(0, 5, -1);
            x.block(0, 5, true);
            Check.is("the comment of before", 1, x.reads(0, 5));
            Check.noState("a comment from now on", () -> x.comment(0, 5, -1));
        });
        String ends = "A PERSON can BLOCK another one, or not any more.";
        Edge.term(ends, "off, and off again", x -> {
            x.block(11, 0, true);
            Check.is("off", true, x.block(11, 0, false));
            Check.is("off again", false, x.block(11, 0, false));
        });
        Edge.term(ends, "who is not BLOCKED any more comments", x -> {
            Check.posted(x, 0, 0);
            x.block(0, 5, true);
            x.block(0, 5, false);
            Check.is("comment(0, 5, -1)", 0, x.comment(0, 5, -1));
        });
        Edge.term(ends, "each PERSON can BLOCK each other one at once", x -> {
            for (int i = 0; i < 132; i++) {
                int person = i / 11;
                int other = i % 11 < person ? i % 11 : i % 11 + 1;
                Check.is("block(" + person + ", " + other + ", true)", false, x.block(person, other, true));
            }
            for (int person = 0; person < 12; person++) {
                Check.is("of " + person, true, x.block(person, (person + 7) % 12, false));
            }
        });
    }

    private static void same() {
        String either = "if there is no such FACE, of either";
        Edge.noSuch(4, either, "the first one", 32, x -> { }, (x, face) -> x.same(face, 0));
        Edge.noSuch(4, either, "the second one", 32, x -> { }, (x, face) -> x.same(31, face));
        String returns = "Returns whether they were not.";
        Edge.of(4, returns, "they were not", x -> Check.is("same(0, 31)", true, x.same(0, 31)));
        Edge.of(4, returns, "they were", x -> {
            x.same(0, 31);
            Check.is("same(0, 31)", false, x.same(0, 31));
        });
        Edge.of(4, "Tells that two FACES are the SAME.", "told once, it is so both ways", x -> {
            x.same(12, 11);
            Check.is("same(11, 12)", false, x.same(11, 12));
        });
        String itself = "each FACE is the SAME as itself";
        Edge.term(itself, "the first FACE", x -> Check.is("same(0, 0)", false, x.same(0, 0)));
        Edge.term(itself, "the last FACE", x -> Check.is("same(31, 31)", false, x.same(31, 31)));
        Edge.term(itself, "told so, it is the SAME as no other one", x -> {
            x.same(5, 5);
            Check.is("same(5, 6)", true, x.same(5, 6));
        });
    }

    private static void sameOfMany() {
        String all = "each one that is the SAME as either is the SAME as each that is the SAME as the other";
        Edge.term(all, "two pairs become four", x -> {
            x.same(0, 1);
            x.same(30, 31);
            x.same(1, 31);
            Check.is("same(0, 30)", false, x.same(0, 30));
            Check.is("same(0, 31)", false, x.same(0, 31));
            Check.is("same(1, 30)", false, x.same(1, 30));
            Check.is("no other one", true, x.same(2, 30));
        });
        Edge.term(all, "all 32 in a chain", x -> {
            for (int face = 0; face < 31; face++) {
                Check.is("same with the next of " + face, true, x.same(face, face + 1));
            }
            Check.is("the ends of the chain", false, x.same(0, 31));
        });
        Edge.term("for good", "kudos of one bar the other one on a later DAY", x -> {
            Check.posted(x, 0, 0);
            x.same(7, 20);
            x.kudos(0, 7);
            x.pass(100);
            x.block(7, 8, true);
            Check.noState("kudos(0, 20)", () -> x.kudos(0, 20));
            Check.is("same(20, 7)", false, x.same(20, 7));
        });
    }

    /** The constructor is no call on the object; the 512th call still answers, whatever the calls were. */
    private static void lastCalls() {
        String words = "An object is used for at most 512 calls after it has been made";
        Edge.term(words, "the last of them, all refused", x -> {
            for (int i = 0; i < MOST_CALLS; i++) {
                Check.noIndex("call " + i, () -> x.digest(12));
            }
        });
        Edge.term(words, "the last of them, on full rows", x -> {
            for (int person = 0; person < 8; person++) {
                x.sign(person, 0, 0, 0);
            }
            for (int i = 8; i < MOST_CALLS; i++) {
                Check.is("call " + i, 0, x.matches());
            }
        });
        Edge.term(words, "the last of them, each one a change", x -> {
            x.work(0, 0);
            x.tag();
            for (int i = 2; i < MOST_CALLS; i++) {
                Check.is("call " + i, i % 2 == 1, x.put(0, 0, i % 2 == 0));
            }
        });
    }
}
