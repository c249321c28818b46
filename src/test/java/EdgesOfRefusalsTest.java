import java.util.HashMap;
import java.util.List;
import java.util.Map;
import java.util.function.Consumer;

/**
 * Of the terms, what holds for all calls: one that throws changes nothing, one that asks changes
 * nothing, and of several exceptions the first one of the throws clause is thrown. Whether something
 * changed is seen by a twin archive to which the call was not made.
 */
public final class EdgesOfRefusalsTest {
    private static final String ASKS = "all else is asked, and changes nothing";
    private static final String THROWS = "A call that throws an exception changes nothing";
    private static final String FIRST = "if several exceptions apply, the one that its throws clause names first is thrown";
    private static final Class<?> INDEX = IndexOutOfBoundsException.class;
    private static final Class<?> ARGUMENT = IllegalArgumentException.class;
    private static final Class<?> STATE = IllegalStateException.class;

    private static final Map<List<Object>, List<String>> twins = new HashMap<>();

    public static void main(String[] args) {
        refusedOfDays();
        refusedOfWorks();
        refusedOfTags();
        refusedOfSearches();
        refusedOfSigns();
        refusedOfComments();
        refusedWhenFull();
        firstOfDaysAndWorks();
        firstOfTags();
        firstOfSearchesAndSigns();
        firstOfComments();
        asked();
        aims();
        Edge.end(1, 0, "Terms");
    }

    // ---- what is refused changes nothing

    private static void refused(String call, Class<?> due, Consumer<Tagwranglery> calls) {
        refusedIn(THROWS, Scene.BUSY, call, due, calls);
    }

    private static void refusedIn(String words, Scene scene, String call, Class<?> due, Consumer<Tagwranglery> calls) {
        Edge.term(words, scene + ", " + call, x -> {
            scene.make(x);
            Check.fails(call, due, () -> calls.accept(x));
            for (int kind = 0; kind < Probe.KINDS; kind++) {
                Tagwranglery other = new Tagwranglery();
                scene.make(other);
                Check.fails(call, due, () -> calls.accept(other));
                likeTwin(scene, kind, other);
            }
        });
    }

    private static void likeTwin(Scene scene, int kind, Tagwranglery other) {
        List<String> due = twins.computeIfAbsent(List.of(scene, kind), key -> {
            Tagwranglery twin = new Tagwranglery();
            scene.make(twin);
            return Probe.answers(kind, twin);
        });
        List<String> answers = Probe.answers(kind, other);
        for (int i = 0; i < due.size(); i++) {
            Check.note(due.get(i).equals(answers.get(i)), "then " + answers.get(i) + ", without it " + due.get(i));
        }
    }

    private static void refusedOfDays() {
        refused("pass(0)", ARGUMENT, x -> x.pass(0));
        refused("pass(101)", ARGUMENT, x -> x.pass(101));
        refused("block(12, 0, true)", INDEX, x -> x.block(12, 0, true));
        refused("block(0, 12, true)", INDEX, x -> x.block(0, 12, true));
        refused("block(0, -1, false)", INDEX, x -> x.block(0, -1, false));
        refused("block(3, 3, true)", ARGUMENT, x -> x.block(3, 3, true));
        refused("same(32, 0)", INDEX, x -> x.same(32, 0));
        refused("same(0, 32)", INDEX, x -> x.same(0, 32));
        refused("same(21, -1)", INDEX, x -> x.same(21, -1));
    }

    private static void refusedOfWorks() {
        refused("work(12, 0)", INDEX, x -> x.work(12, 0));
        refused("work(0, 4)", ARGUMENT, x -> x.work(0, 4));
        refused("join(5, 0)", INDEX, x -> x.join(5, 0));
        refused("join(0, 12)", INDEX, x -> x.join(0, 12));
        refused("join(0, 1), who is one", STATE, x -> x.join(0, 1));
        refused("join(4, 8), it has 3", STATE, x -> x.join(4, 8));
        refused("join(3, 4), it has none", STATE, x -> x.join(3, 4));
        refused("leave(5, 0)", INDEX, x -> x.leave(5, 0));
        refused("leave(0, 12)", INDEX, x -> x.leave(0, 12));
        refused("leave(0, 5), who is none", STATE, x -> x.leave(0, 5));
        refused("chapter(5)", INDEX, x -> x.chapter(5));
        refused("chapter(4), it has 8", STATE, x -> x.chapter(4));
        refused("post(5)", INDEX, x -> x.post(5));
        refused("post(0), it is POSTED", STATE, x -> x.post(0));
        refused("post(3), it has no chapter", STATE, x -> x.post(3));
        refused("lock(5, true)", INDEX, x -> x.lock(5, true));
        refused("lock(-1, false)", INDEX, x -> x.lock(-1, false));
        refused("collection(-1, 0)", ARGUMENT, x -> x.collection(-1, 0));
        refused("collection(5, 4)", ARGUMENT, x -> x.collection(5, 4));
        refused("collection(5, 2001)", ARGUMENT, x -> x.collection(5, 2001));
        refused("collect(5, 0)", INDEX, x -> x.collect(5, 0));
        refused("collect(0, 1)", INDEX, x -> x.collect(0, 1));
        refused("collect(2, 0), it is in one", STATE, x -> x.collect(2, 0));
        refused("sees(32, 0)", INDEX, x -> x.sees(32, 0));
        refused("sees(0, 5)", INDEX, x -> x.sees(0, 5));
        refused("owners(32, 0)", INDEX, x -> x.owners(32, 0));
        refused("owners(0, 5)", INDEX, x -> x.owners(0, 5));
    }

    private static void refusedOfTags() {
        refused("make(6)", INDEX, x -> x.make(6));
        refused("make(0), it is MAIN", STATE, x -> x.make(0));
        refused("merge(6, 0)", INDEX, x -> x.merge(6, 0));
        refused("merge(0, 6)", INDEX, x -> x.merge(0, 6));
        refused("merge(0, 0)", ARGUMENT, x -> x.merge(0, 0));
        refused("merge(0, 4), that is FREE", STATE, x -> x.merge(0, 4));
        refused("merge(4, 3), that is an ALIAS", STATE, x -> x.merge(4, 3));
        refused("merge(0, 2), that is ABOVE", STATE, x -> x.merge(0, 2));
        refused("merge(2, 0), that is below", STATE, x -> x.merge(2, 0));
        refused("parent(6, 0, true)", INDEX, x -> x.parent(6, 0, true));
        refused("parent(0, 6, false)", INDEX, x -> x.parent(0, 6, false));
        refused("parent(0, 0, true)", ARGUMENT, x -> x.parent(0, 0, true));
        refused("parent(4, 0, true), it is FREE", STATE, x -> x.parent(4, 0, true));
        refused("parent(0, 3, false), that is an ALIAS", STATE, x -> x.parent(0, 3, false));
        refused("parent(2, 0, true), it is ABOVE", STATE, x -> x.parent(2, 0, true));
        refused("ofTag(6, 0)", INDEX, x -> x.ofTag(6, 0));
        refused("ofTag(0, 5)", ARGUMENT, x -> x.ofTag(0, 5));
        refused("put(5, 0, true)", INDEX, x -> x.put(5, 0, true));
        refused("put(0, 6, true)", INDEX, x -> x.put(0, 6, true));
        refused("put(0, -1, false)", INDEX, x -> x.put(0, -1, false));
        refused("wave(0)", ARGUMENT, x -> x.wave(0));
        refused("wave(21)", ARGUMENT, x -> x.wave(21));
        refused("under(5, true)", INDEX, x -> x.under(5, true));
    }

    private static void refusedOfSearches() {
        refused("type(.., 0)", ARGUMENT, x -> x.type('&', 0));
        refused("type(.., 9)", ARGUMENT, x -> x.type(Check.packed("&&&&&&&&"), 9));
        refused("type(.., 8), the eighth one cannot be", ARGUMENT, x -> x.type(Check.packed("&&&&&&&x"), 8));
        refused("search(32, true)", INDEX, x -> x.search(32, true));
        refused("result(32, 0)", INDEX, x -> x.result(32, 0));
        refused("result(0, -1)", INDEX, x -> x.result(0, -1));
        refusedIn(THROWS, Scene.NO_QUERY, "search(0, true)", ARGUMENT, x -> x.search(0, true));
        refusedIn(THROWS, Scene.NO_QUERY, "search(0, false)", ARGUMENT, x -> x.search(0, false));
        refusedIn(THROWS, Scene.NO_QUERY, "result(0, 0)", ARGUMENT, x -> x.result(0, 0));
    }

    private static void refusedOfSigns() {
        refused("sign(12, 0, 0, 0)", INDEX, x -> x.sign(12, 0, 0, 0));
        refused("sign(2, 64, 0, 0)", ARGUMENT, x -> x.sign(2, 64, 0, 0));
        refused("sign(2, 0, 64, 0)", ARGUMENT, x -> x.sign(2, 0, 64, 0));
        refused("sign(2, 0, 0, 4096)", ARGUMENT, x -> x.sign(2, 0, 0, 4096));
        refused("sign(0, 0, 0, 0), who has one", STATE, x -> x.sign(0, 0, 0, 0));
        refused("match(2)", INDEX, x -> x.match(2));
        refused("match(-1)", INDEX, x -> x.match(-1));
    }

    private static void refusedOfComments() {
        refused("screen(5, false)", INDEX, x -> x.screen(5, false));
        refused("comment(5, 0, -1)", INDEX, x -> x.comment(5, 0, -1));
        refused("comment(0, 32, -1)", INDEX, x -> x.comment(0, 32, -1));
        refused("comment(0, 0, 5)", INDEX, x -> x.comment(0, 0, 5));
        refused("comment(4, 5, 0), that is on another WORK", ARGUMENT, x -> x.comment(4, 5, 0));
        refused("comment(1, 8, -1), not SEEN", STATE, x -> x.comment(1, 8, -1));
        refused("comment(0, 11, 3), SCREENED", STATE, x -> x.comment(0, 11, 3));
        refused("comment(4, 8, 4), REMOVED", STATE, x -> x.comment(4, 8, 4));
        refused("comment(0, 8, 2), beneath what is FROZEN", STATE, x -> x.comment(0, 8, 2));
        refused("comment(0, 6, -1), BLOCKED by an OWNER", STATE, x -> x.comment(0, 6, -1));
        refused("comment(0, 9, 0), BLOCKED by who wrote it", STATE, x -> x.comment(0, 9, 0));
        refused("change(5, 0)", INDEX, x -> x.change(5, 0));
        refused("change(0, 4)", ARGUMENT, x -> x.change(0, 4));
        refused("change(0, -1)", ARGUMENT, x -> x.change(0, -1));
        refused("reads(5, 0)", INDEX, x -> x.reads(5, 0));
        refused("reads(0, 32)", INDEX, x -> x.reads(0, 32));
        refused("kudos(5, 0)", INDEX, x -> x.kudos(5, 0));
        refused("kudos(0, 32)", INDEX, x -> x.kudos(0, 32));
        refused("kudos(1, 8), not SEEN", STATE, x -> x.kudos(1, 8));
        refused("kudos(0, 1), an OWNER", STATE, x -> x.kudos(0, 1));
        refused("kudos(0, 8), given", STATE, x -> x.kudos(0, 8));
        refused("kudos(0, 22), given by the SAME", STATE, x -> x.kudos(0, 22));
        refused("liked(5)", INDEX, x -> x.liked(5));
        refused("subscribe(12, true, 0)", INDEX, x -> x.subscribe(12, true, 0));
        refused("subscribe(0, true, 12)", INDEX, x -> x.subscribe(0, true, 12));
        refused("subscribe(0, false, 5)", INDEX, x -> x.subscribe(0, false, 5));
        refused("news(12)", INDEX, x -> x.news(12));
        refused("digest(12)", INDEX, x -> x.digest(12));
    }

    private static void full(String call, Class<?> due, Consumer<Tagwranglery> calls) {
        refusedIn(THROWS, Scene.FULL, call, due, calls);
    }

    private static void refusedWhenFull() {
        full("pass(1)", STATE, x -> x.pass(1));
        full("pass(100)", STATE, x -> x.pass(100));
        full("work(0, 0)", STATE, x -> x.work(0, 0));
        full("join(0, 3)", STATE, x -> x.join(0, 3));
        full("chapter(0)", STATE, x -> x.chapter(0));
        full("post(0)", STATE, x -> x.post(0));
        full("collection(0, 0)", STATE, x -> x.collection(0, 0));
        full("collect(0, 4)", STATE, x -> x.collect(0, 4));
        full("collect(19, 6)", INDEX, x -> x.collect(19, 6));
        full("lock(20, true)", INDEX, x -> x.lock(20, true));
        full("tag()", STATE, x -> x.tag());
        full("make(30)", INDEX, x -> x.make(30));
        full("put(20, 29, true)", INDEX, x -> x.put(20, 29, true));
        full("put(19, 30, true)", INDEX, x -> x.put(19, 30, true));
        full("type(.., 1)", STATE, x -> x.type('!', 1));
        full("type(.., 8)", STATE, x -> x.type(Check.packed("!!!!!!!!"), 8));
        full("sign(8, 0, 0, 0)", STATE, x -> x.sign(8, 0, 0, 0));
        full("sign(8, 1 << 30, 0, 0)", ARGUMENT, x -> x.sign(8, 1 << 30, 0, 0));
        full("match(8)", INDEX, x -> x.match(8));
        full("comment(0, 5, -1)", STATE, x -> x.comment(0, 5, -1));
        full("comment(0, 5, 59)", STATE, x -> x.comment(0, 5, 59));
        full("comment(0, 5, 60)", INDEX, x -> x.comment(0, 5, 60));
        full("change(60, 3)", INDEX, x -> x.change(60, 3));
    }

    // ---- of several exceptions, the first one

    private static void first(Scene scene, String call, Class<?> due, Consumer<Tagwranglery> calls) {
        refusedIn(FIRST, scene, call, due, calls);
    }

    private static void firstOfDaysAndWorks() {
        first(Scene.FULL, "pass: days is out of range, it would be above 2000", ARGUMENT, x -> x.pass(101));
        first(Scene.FULL, "pass: days is farthest out of range, it would be above 2000", ARGUMENT, x -> x.pass(Integer.MAX_VALUE));
        first(Scene.BUSY, "block: no such PERSON, both are the same", INDEX, x -> x.block(12, 12, true));
        first(Scene.BUSY, "block: no such PERSON below 0, both are the same", INDEX, x -> x.block(-1, -1, false));
        first(Scene.BUSY, "work: no such PERSON, rating is out of range", INDEX, x -> x.work(12, 4));
        first(Scene.FULL, "work: no such PERSON, there are 20", INDEX, x -> x.work(12, 0));
        first(Scene.FULL, "work: rating is out of range, there are 20", ARGUMENT, x -> x.work(0, 4));
        first(Scene.FULL, "work: all three", INDEX, x -> x.work(-1, -1));
        first(Scene.BUSY, "join: no such PERSON, it has 3", INDEX, x -> x.join(4, 12));
        first(Scene.BUSY, "join: no such PERSON, it has none", INDEX, x -> x.join(3, -1));
        first(Scene.BUSY, "leave: no such PERSON, who so is no OWNER", INDEX, x -> x.leave(0, 12));
        first(Scene.FULL, "collection: opens is out of range, there are 6", ARGUMENT, x -> x.collection(2001, 2001));
        first(Scene.FULL, "collection: names is out of range, there are 6", ARGUMENT, x -> x.collection(5, 4));
        first(Scene.BUSY, "collect: no such collection, it is in one", INDEX, x -> x.collect(2, 1));
    }

    private static void firstOfTags() {
        first(Scene.BUSY, "merge: no such TAG, both are the same", INDEX, x -> x.merge(6, 6));
        first(Scene.BUSY, "merge: no such TAG, the other one is not MAIN", INDEX, x -> x.merge(6, 4));
        first(Scene.BUSY, "merge: no such other TAG, which so is not MAIN", INDEX, x -> x.merge(0, -1));
        first(Scene.BUSY, "merge: both are the same, the other one is not MAIN", ARGUMENT, x -> x.merge(4, 4));
        first(Scene.BUSY, "parent: no such TAG, both are the same", INDEX, x -> x.parent(6, 6, true));
        first(Scene.BUSY, "parent: no such TAG, the other one is not MAIN", INDEX, x -> x.parent(6, 4, true));
        first(Scene.BUSY, "parent: no such PARENT, the first one is not MAIN", INDEX, x -> x.parent(4, 6, false));
        first(Scene.BUSY, "parent: both are the same, and not MAIN", ARGUMENT, x -> x.parent(4, 4, false));
        first(Scene.BUSY, "ofTag: no such TAG, what is out of range", INDEX, x -> x.ofTag(6, 5));
    }

    private static void firstOfSearchesAndSigns() {
        first(Scene.FULL, "type: n is out of range, more than 60", ARGUMENT, x -> x.type(Check.packed("!!!!!!!!"), 9));
        first(Scene.FULL, "type: n is below the range on a full tape", ARGUMENT, x -> x.type('!', 0));
        first(Scene.FULL, "type: a character that cannot be, more than 60", ARGUMENT, x -> x.type('x', 1));
        first(Scene.FULL, "type: the eighth one cannot be, more than 60", ARGUMENT, x -> x.type(Check.packed("!!!!!!!x"), 8));
        first(Scene.NO_QUERY, "search: no such FACE, the tape is no query", INDEX, x -> x.search(32, true));
        first(Scene.NO_QUERY, "result: no such FACE, the tape is no query", INDEX, x -> x.result(-1, 0));
        first(Scene.NO_QUERY, "result: place is below 0, the tape is no query", INDEX, x -> x.result(0, -1));
        first(Scene.BUSY, "sign: no such PERSON, a set has what there is not", INDEX, x -> x.sign(12, 64, 0, 0));
        first(Scene.FULL, "sign: no such PERSON, there are 8", INDEX, x -> x.sign(12, 0, 0, 0));
        first(Scene.BUSY, "sign: a wish that there is not, the PERSON has one", ARGUMENT, x -> x.sign(0, 64, 0, 0));
        first(Scene.BUSY, "sign: an offer that there is not, the PERSON has one", ARGUMENT, x -> x.sign(0, 0, 64, 0));
        first(Scene.BUSY, "sign: a PERSON who there is not, the PERSON has one", ARGUMENT, x -> x.sign(0, 0, 0, 4096));
        first(Scene.FULL, "sign: a PERSON who there is not, there are 8", ARGUMENT, x -> x.sign(8, 0, 0, 4096));
        first(Scene.FULL, "sign: all three", INDEX, x -> x.sign(-1, -1, -1, -1));
    }

    private static void firstOfComments() {
        first(Scene.BUSY, "comment: no such FACE, the comment is on another WORK", INDEX, x -> x.comment(4, 32, 0));
        first(Scene.BUSY, "comment: no such comment, the WORK is not SEEN", INDEX, x -> x.comment(1, 8, 5));
        first(Scene.BUSY, "comment: no such comment, BLOCKED by an OWNER", INDEX, x -> x.comment(0, 6, -2));
        first(Scene.FULL, "comment: no such WORK, there are 60", INDEX, x -> x.comment(20, 5, -1));
        first(Scene.FULL, "comment: no such FACE, there are 60", INDEX, x -> x.comment(0, 32, -1));
        first(Scene.BUSY, "comment: on another WORK, which is not SEEN", ARGUMENT, x -> x.comment(1, 8, 0));
        first(Scene.BUSY, "comment: on another WORK, not read", ARGUMENT, x -> x.comment(4, 11, 3));
        first(Scene.BUSY, "comment: on another WORK, FROZEN", ARGUMENT, x -> x.comment(4, 8, 1));
        first(Scene.BUSY, "comment: on another WORK, BLOCKED by an OWNER", ARGUMENT, x -> x.comment(0, 6, 4));
        first(Scene.BUSY, "comment: on another WORK, BLOCKED by who wrote it", ARGUMENT, x -> x.comment(4, 9, 0));
        first(Scene.FULL, "comment: on another WORK, there are 60", ARGUMENT, x -> x.comment(1, 3, 0));
        first(Scene.BUSY, "change: no such comment, what is out of range", INDEX, x -> x.change(5, 4));
        first(Scene.BUSY, "kudos: no such FACE, which so does not SEE a draft", INDEX, x -> x.kudos(1, 32));
    }

    // ---- what is asked changes nothing

    private static void asked(Scene scene, String call, Consumer<Tagwranglery> calls) {
        Edge.term(ASKS, scene + ", " + call, x -> {
            for (int kind = 0; kind < Probe.KINDS; kind++) {
                Tagwranglery other = new Tagwranglery();
                scene.make(other);
                calls.accept(other);
                likeTwin(scene, kind, other);
            }
        });
    }

    private static void asked() {
        for (Scene scene : new Scene[] {Scene.BUSY, Scene.FULL}) {
            asked(scene, "sees", x -> x.sees(31, 0));
            asked(scene, "owners", x -> x.owners(31, 0));
            for (int i = 0; i < 5; i++) {
                int what = i;
                asked(scene, "ofTag, " + what, x -> x.ofTag(1, what));
            }
            asked(scene, "waiting", x -> x.waiting());
            asked(scene, "under, FILED", x -> x.under(0, false));
            asked(scene, "under, by now", x -> x.under(0, true));
            asked(scene, "fault", x -> x.fault());
            asked(scene, "search, FILED", x -> x.search(0, false));
            asked(scene, "search, by now", x -> x.search(0, true));
            asked(scene, "result", x -> x.result(0, 0));
            asked(scene, "match", x -> x.match(1));
            asked(scene, "matches", x -> x.matches());
            asked(scene, "reads", x -> x.reads(0, 5));
            asked(scene, "liked", x -> x.liked(0));
            asked(scene, "news", x -> x.news(10));
        }
        asked(Scene.NO_QUERY, "fault", x -> x.fault());
    }

    // ---- what the document is about

    private static void aims() {
        Edge.term("in a graph without circles", "each TAG tries to be ABOVE each other one", x -> {
            Check.mainTags(x, 8);
            for (int i = 0; i < 56; i++) {
                int tag = i / 7;
                int parent = (tag + 1 + i % 7) % 8;
                if ((x.ofTag(parent, 2) & 1 << tag) != 0) {
                    Check.noState("parent(" + tag + ", " + parent + ", true)", () -> x.parent(tag, parent, true));
                } else {
                    x.parent(tag, parent, true);
                }
            }
            for (int tag = 0; tag < 8; tag++) {
                Check.is("ABOVE itself, " + tag, 0, x.ofTag(tag, 2) & 1 << tag);
            }
        });
        Edge.term("The aim is that a hidden owner stays hidden", "by no search, and by no news", x -> {
            Check.posted(x, 3, 0);
            x.collection(0, 5);
            x.collect(0, 0);
            x.subscribe(7, true, 3);
            Check.type(x, "a03");
            Check.is("owners(7, 0)", 0, x.owners(7, 0));
            Check.is("search(7, true)", 0, x.search(7, true));
            Check.is("result(7, 0)", -1, x.result(7, 0));
            Check.is("news(7)", 0, x.news(7));
        });
        Edge.term("that a TAG has one MEANING at a time", "merged twice", x -> {
            Check.mainTags(x, 3);
            x.merge(0, 1);
            x.merge(0, 2);
            Check.is("ofTag(0, 1)", 2, x.ofTag(0, 1));
        });
    }
}
