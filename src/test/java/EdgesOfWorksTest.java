import java.util.function.Consumer;

/** The boundary cases of promises 5 to 14 and of the terms of WORKS. */
public final class EdgesOfWorksTest {
    private static final Consumer<Tagwranglery> ONE_WORK = x -> x.work(3, 0);

    public static void main(String[] args) {
        work();
        join();
        leave();
        ownersOfWorks();
        chapter();
        post();
        outDays();
        latest();
        lock();
        collection();
        collect();
        sees();
        seesInCollection();
        owners();
        ownersInCollection();
        Edge.end(5, 14, "WORKS");
    }

    private static void work() {
        Edge.noSuch(5, "if there is no such PERSON", "the PERSON", 12, x -> { }, (x, person) -> x.work(person, 0));
        Edge.outOfRange(5, "if rating is out of range", "the rating", 0, 3, x -> { }, (x, rating) -> x.work(0, rating));
        for (int rating : new int[] {0, 3}) {
            Edge.of(5, "0 to 3", "RATING " + rating, x -> {
                Check.is("work(0, " + rating + ")", 0, x.work(0, rating));
                Check.posted(x, 0, rating);
                Check.retype(x, "r" + rating);
                Check.is("it has that RATING", 3, x.search(0, false));
            });
        }
        Edge.of(5, "Returns its number.", "from 0 to 19", x -> {
            for (int i = 0; i < 20; i++) {
                Check.is("work " + i, i, x.work(11, 3));
            }
        });
        Edge.of(5, "if there are 20", "a 21st WORK", x -> {
            twentyWorks(x);
            Check.noState("work(0, 0)", () -> x.work(0, 0));
            Check.noIndex("it has not come", () -> x.liked(20));
        });
        Edge.of(5, "a draft without chapters", "there is nothing to POST", x -> {
            x.work(0, 0);
            Check.noState("post(0)", () -> x.post(0));
            Check.is("its first chapter", 0, x.chapter(0));
        });
        Edge.of(5, "a draft without chapters", "a draft is not SEEN", x -> {
            x.work(0, 0);
            Check.is("sees(1, 0)", false, x.sees(1, 0));
        });
        Edge.term("WORKS are numbered from 0, at most 20.", "the first and the last one are apart", x -> {
            twentyWorks(x);
            x.chapter(19);
            x.post(19);
            Check.is("sees(31, 19)", true, x.sees(31, 19));
            Check.is("sees(31, 0)", false, x.sees(31, 0));
        });
    }

    private static void twentyWorks(Tagwranglery x) {
        for (int i = 0; i < 20; i++) {
            x.work(0, 0);
        }
    }

    private static void join() {
        Edge.noSuch(6, "if there is no such WORK or PERSON", "the WORK", 1, ONE_WORK, (x, work) -> x.join(work, 0));
        Edge.noSuch(6, "if there is no such WORK or PERSON", "the PERSON", 12, ONE_WORK, (x, person) -> x.join(0, person));
        Edge.of(6, "if the PERSON is one already", "the first OWNER", x -> {
            x.work(3, 0);
            Check.noState("join(0, 3)", () -> x.join(0, 3));
            Check.is("still one", 2, x.join(0, 4));
        });
        Edge.of(6, "if the PERSON is one already", "one who joined", x -> {
            x.work(3, 0);
            x.join(0, 11);
            Check.noState("join(0, 11)", () -> x.join(0, 11));
        });
        Edge.of(6, "it has 3", "a fourth OWNER", x -> {
            threeOwners(x);
            Check.noState("join(0, 6)", () -> x.join(0, 6));
            Check.is("the OWNERS", Check.set(3, 4, 5), x.owners(3, 0));
        });
        Edge.of(6, "it has 3", "there is room again when one left", x -> {
            threeOwners(x);
            x.leave(0, 3);
            Check.is("join(0, 6)", 3, x.join(0, 6));
        });
        Edge.of(6, "or it has none", "who was the first OWNER neither", x -> {
            x.work(3, 0);
            x.leave(0, 3);
            Check.noState("join(0, 3)", () -> x.join(0, 3));
            Check.noState("join(0, 4)", () -> x.join(0, 4));
        });
        Edge.of(6, "Returns how many OWNERS it has then.", "2, then 3", x -> {
            x.work(3, 0);
            Check.is("join(0, 0)", 2, x.join(0, 0));
            Check.is("join(0, 11)", 3, x.join(0, 11));
        });
        Edge.of(6, "Adds an OWNER to a WORK.", "one who left can come back", x -> {
            x.work(3, 0);
            x.join(0, 4);
            x.leave(0, 3);
            Check.is("join(0, 3)", 2, x.join(0, 3));
            Check.is("the OWNERS", Check.set(3, 4), x.owners(3, 0));
        });
    }

    private static void threeOwners(Tagwranglery x) {
        x.work(3, 0);
        x.join(0, 4);
        x.join(0, 5);
    }

    private static void leave() {
        Edge.noSuch(7, "if there is no such WORK or PERSON", "the WORK", 1, ONE_WORK, (x, work) -> x.leave(work, 3));
        Edge.noSuch(7, "if there is no such WORK or PERSON", "the PERSON", 12, ONE_WORK, (x, person) -> x.leave(0, person));
        Edge.of(7, "if the PERSON is no OWNER of it", "one who never was", x -> {
            x.work(3, 0);
            x.work(4, 0);
            Check.noState("leave(0, 4)", () -> x.leave(0, 4));
        });
        Edge.of(7, "if the PERSON is no OWNER of it", "one who left", x -> {
            threeOwners(x);
            x.leave(0, 4);
            Check.noState("leave(0, 4)", () -> x.leave(0, 4));
        });
        Edge.of(7, "if the PERSON is no OWNER of it", "it has none", x -> {
            x.work(3, 0);
            x.leave(0, 3);
            Check.noState("leave(0, 3)", () -> x.leave(0, 3));
        });
        Edge.of(7, "if the PERSON is no OWNER of it", "the SAME as an OWNER is none", x -> {
            x.work(3, 0);
            x.same(3, 4);
            Check.noState("leave(0, 4)", () -> x.leave(0, 4));
        });
        Edge.of(7, "Returns how many OWNERS it has then.", "2, 1 and 0", x -> {
            threeOwners(x);
            Check.is("leave(0, 4)", 2, x.leave(0, 4));
            Check.is("leave(0, 3)", 1, x.leave(0, 3));
            Check.is("leave(0, 5)", 0, x.leave(0, 5));
        });
        Edge.of(7, "Takes an OWNER away.", "the other ones stay", x -> {
            threeOwners(x);
            x.leave(0, 4);
            Check.is("to one who stays", Check.set(3, 5), x.owners(5, 0));
            Check.is("to the one who left", 0, x.owners(4, 0));
        });
    }

    private static void ownersOfWorks() {
        String words = "A WORK is made by a PERSON, who is its first OWNER, with a RATING, 0 to 3; "
                + "it has at most 3 OWNERS, and may have none later.";
        Edge.term(words, "one at first", x -> {
            x.work(11, 0);
            Check.is("owners(11, 0)", Check.set(11), x.owners(11, 0));
        });
        Edge.term(words, "without OWNERS a draft is SEEN by nobody", x -> {
            x.work(3, 0);
            x.leave(0, 3);
            for (int face = 0; face < 32; face++) {
                Check.is("sees(" + face + ", 0)", false, x.sees(face, 0));
            }
        });
        Edge.term(words, "without OWNERS it goes on", x -> {
            x.work(3, 0);
            x.leave(0, 3);
            Check.is("chapter(0)", 0, x.chapter(0));
            Check.is("post(0)", 1, x.post(0));
            Check.is("sees(31, 0)", true, x.sees(31, 0));
        });
    }

    private static void chapter() {
        Edge.noSuch(8, "if there is no such WORK", "the WORK", 1, ONE_WORK, (x, work) -> x.chapter(work));
        Edge.of(8, "Returns the number of the chapter.", "from 0 to 7", x -> {
            x.work(0, 0);
            for (int i = 0; i < 8; i++) {
                Check.is("chapter " + i, i, x.chapter(0));
            }
        });
        Edge.of(8, "if it has 8", "a ninth one of a draft", x -> {
            eightChapters(x);
            Check.noState("chapter(0)", () -> x.chapter(0));
            Check.is("there are 8", 8, x.post(0));
        });
        Edge.of(8, "if it has 8", "a ninth one of a POSTED WORK", x -> {
            eightChapters(x);
            x.post(0);
            Check.noState("chapter(0)", () -> x.chapter(0));
            x.subscribe(1, false, 0);
            Check.is("there are 8", 8, x.digest(1));
        });
        Edge.of(8, "if it has 8", "another WORK has none", x -> {
            eightChapters(x);
            x.work(0, 0);
            Check.is("chapter(1)", 0, x.chapter(1));
        });
        Edge.of(8, "Adds a chapter.", "behind those of before posting", x -> {
            Check.posted(x, 0, 0);
            Check.is("chapter(0)", 1, x.chapter(0));
        });
        Edge.term("It gets chapters, numbered from 0, at most 8, each with the DAY on which it came.",
                "the last one of 8 has its own DAY", x -> {
            x.work(0, 0);
            for (int i = 0; i < 7; i++) {
                x.chapter(0);
            }
            x.post(0);
            x.pass(9);
            x.subscribe(1, false, 0);
            Check.is("none of those of DAY 0", 0, x.news(1));
            x.chapter(0);
            Check.is("the one of DAY 9", 1, x.digest(1));
        });
    }

    private static void eightChapters(Tagwranglery x) {
        x.work(0, 0);
        for (int i = 0; i < 8; i++) {
            x.chapter(0);
        }
    }

    private static void post() {
        Edge.noSuch(9, "if there is no such WORK", "the WORK", 1, ONE_WORK, (x, work) -> x.post(work));
        Edge.of(9, "or has no chapter", "a new WORK", x -> {
            x.work(0, 0);
            Check.noState("post(0)", () -> x.post(0));
            x.chapter(0);
            Check.is("it is a draft still", false, x.sees(1, 0));
        });
        Edge.of(9, "if it is POSTED", "again on the same DAY", x -> {
            Check.posted(x, 0, 0);
            Check.noState("post(0)", () -> x.post(0));
        });
        Edge.of(9, "Returns how many chapters it has.", "the least", x -> {
            x.work(0, 0);
            x.chapter(0);
            Check.is("post(0)", 1, x.post(0));
        });
        Edge.of(9, "Returns how many chapters it has.", "the most", x -> {
            eightChapters(x);
            Check.is("post(0)", 8, x.post(0));
        });
        Edge.of(9, "POSTS a WORK.", "no other one", x -> {
            x.work(0, 0);
            x.chapter(0);
            Check.posted(x, 0, 0);
            Check.is("sees(1, 0)", false, x.sees(1, 0));
            Check.is("sees(1, 1)", true, x.sees(1, 1));
        });
        String stays = "It is a draft until it is POSTED, which it stays, with the DAY of that.";
        Edge.term(stays, "it stays POSTED, also without OWNERS", x -> {
            Check.posted(x, 0, 0);
            x.leave(0, 0);
            x.pass(100);
            Check.is("sees(31, 0)", true, x.sees(31, 0));
            Check.noState("post(0)", () -> x.post(0));
        });
        Edge.term(stays, "a later post() that is refused leaves the DAY", x -> {
            Check.posted(x, 0, 0);
            x.pass(1);
            Check.noState("post(0)", () -> x.post(0));
            x.subscribe(1, false, 0);
            Check.is("news(1)", 0, x.news(1));
        });
        Edge.term(stays, "POSTED on the last DAY", x -> {
            x.work(0, 0);
            x.chapter(0);
            Check.pass(x, 2000);
            x.subscribe(1, false, 0);
            x.post(0);
            Check.is("digest(1)", 1, x.digest(1));
        });
    }

    private static void outDays() {
        outDay("it came ahead of posting, asked from the DAY of posting", 2, 5, 5, 2);
        outDay("it came ahead of posting, asked from the DAY behind", 2, 5, 6, 0);
        outDay("it came ahead of posting, asked from between", 2, 5, 3, 2);
        outDay("it came behind posting, asked from its DAY", 5, 2, 5, 1);
        outDay("it came behind posting, asked from the DAY behind", 5, 2, 6, 0);
        outDay("it came behind posting, asked from between", 5, 2, 3, 1);
        outDay("it came behind posting, asked from the DAY of posting", 5, 2, 2, 2);
        outDay("it came on the DAY of posting, asked from that DAY", 5, 5, 5, 2);
        outDay("it came on the DAY of posting, asked from the DAY behind", 5, 5, 6, 0);
    }

    /** A WORK has a chapter of DAY 0 and one that came on another DAY; PERSON 1 subscribes it. */
    private static void outDay(String what, int came, int posted, int subscribed, int due) {
        Edge.term("A chapter is OUT from the later one of its DAY and that on which the WORK was POSTED; that is its OUT DAY.",
                what, x -> {
            x.work(0, 0);
            x.chapter(0);
            for (int day = 0; day <= 6; day++) {
                if (day == subscribed) {
                    x.subscribe(1, false, 0);
                }
                if (day == came) {
                    x.chapter(0);
                }
                if (day == posted) {
                    x.post(0);
                }
                x.pass(1);
            }
            Check.is("digest(1)", due, x.digest(1));
        });
    }

    private static void latest() {
        String words = "The LATEST of a POSTED WORK is the greatest OUT DAY of its chapters.";
        Edge.term(words, "a chapter that came later than posting", x -> {
            Check.posted(x, 0, 0);
            x.pass(1);
            Check.posted(x, 0, 0);
            firstResult(x, 1);
            x.pass(1);
            x.chapter(0);
            firstResult(x, 0);
        });
        Edge.term(words, "posting that came later than all chapters", x -> {
            x.work(0, 0);
            x.chapter(0);
            x.pass(1);
            Check.posted(x, 0, 0);
            x.pass(1);
            x.post(0);
            firstResult(x, 0);
        });
        Edge.term(words, "another chapter on the same DAY leaves it", x -> {
            Check.posted(x, 0, 0);
            Check.posted(x, 0, 0);
            x.chapter(1);
            firstResult(x, 0);
        });
    }

    private static void firstResult(Tagwranglery x, int due) {
        Check.retype(x, "r3");
        Check.is("result(0, 0)", due, x.result(0, 0));
    }

    private static void lock() {
        Edge.noSuch(10, "if there is no such WORK", "the WORK", 1, ONE_WORK, (x, work) -> x.lock(work, true));
        Edge.of(10, "Returns whether it was.", "locked twice", x -> {
            x.work(0, 0);
            Check.is("once", false, x.lock(0, true));
            Check.is("twice", true, x.lock(0, true));
        });
        Edge.of(10, "Returns whether it was.", "unlocked twice", x -> {
            x.work(0, 0);
            x.lock(0, true);
            Check.is("once", true, x.lock(0, false));
            Check.is("twice", false, x.lock(0, false));
        });
        Edge.of(10, "Locks a WORK, or unlocks it.", "no other one", x -> {
            Check.posted(x, 0, 0);
            Check.posted(x, 0, 0);
            x.lock(1, true);
            Check.is("sees(31, 0)", true, x.sees(31, 0));
            Check.is("sees(31, 1)", false, x.sees(31, 1));
            x.lock(1, false);
            Check.is("sees(31, 1) again", true, x.sees(31, 1));
        });
        Edge.term("A WORK is LOCKED, or not, as at first.", "not at first", x -> {
            Check.posted(x, 0, 0);
            Check.is("lock(0, false)", false, x.lock(0, false));
            Check.is("sees(31, 0)", true, x.sees(31, 0));
        });
    }

    private static void collection() {
        String range = "if opens or names is out of range";
        Edge.outOfRange(11, range, "opens, with names 2000", 0, 2000, x -> { }, (x, opens) -> x.collection(opens, 2000));
        Edge.outOfRange(11, range, "opens and names", 0, 2000, x -> { }, (x, both) -> x.collection(both, both));
        Edge.outOfRange(11, range, "names, opens being 5", 5, 2000, x -> { }, (x, names) -> x.collection(5, names));
        Edge.of(11, "0 to 2000", "opens 0", x -> Check.is("collection(0, 1)", 0, x.collection(0, 1)));
        Edge.of(11, "0 to 2000", "opens 2000", x -> Check.is("collection(2000, 2000)", 0, x.collection(2000, 2000)));
        Edge.of(11, "0 to 2000", "a DAY that has gone", x -> {
            x.pass(9);
            x.collection(8, 8);
            x.collect(Check.posted(x, 0, 0), 0);
            Check.is("owners(31, 0)", 1, x.owners(31, 0));
        });
        Edge.of(11, "opens to 2000", "names is opens", x -> Check.is("collection(7, 7)", 0, x.collection(7, 7)));
        Edge.of(11, "opens to 2000", "names is one less than opens", x -> Check.noArgument("collection(7, 6)", () -> x.collection(7, 6)));
        Edge.of(11, "opens to 2000", "names is 2000", x -> Check.is("collection(7, 2000)", 0, x.collection(7, 2000)));
        Edge.of(11, "Returns its number.", "from 0 to 5", x -> {
            for (int i = 0; i < 6; i++) {
                Check.is("collection " + i, i, x.collection(i, i));
            }
        });
        Edge.of(11, "if there are 6", "a seventh one", x -> {
            sixCollections(x);
            Check.noState("collection(0, 0)", () -> x.collection(0, 0));
            x.work(0, 0);
            Check.noIndex("it has not come", () -> x.collect(0, 6));
        });
        Edge.of(11, "Makes a collection.", "without WORKS in it", x -> {
            Check.posted(x, 0, 0);
            x.collection(5, 5);
            Check.is("sees(31, 0)", true, x.sees(31, 0));
        });
        Edge.term("Collections are numbered from 0, at most 6, each with a DAY on which it opens and one, not before that, on which it names.",
                "each one has its own", x -> {
            x.collection(0, 0);
            x.collection(0, 1);
            x.collection(1, 1);
            for (int i = 0; i < 3; i++) {
                x.collect(Check.posted(x, 0, 0), i);
            }
            Check.is("the first one names", 1, x.owners(31, 0));
            Check.is("the second one opens", true, x.sees(31, 1));
            Check.is("the second one does not name", 0, x.owners(31, 1));
            Check.is("the third one does not open", false, x.sees(31, 2));
        });
    }

    private static void sixCollections(Tagwranglery x) {
        for (int i = 0; i < 6; i++) {
            x.collection(0, 0);
        }
    }

    private static void collect() {
        Consumer<Tagwranglery> before = x -> {
            x.work(0, 0);
            x.collection(0, 0);
        };
        Edge.noSuch(12, "if there is no such WORK or collection", "the WORK", 1, before, (x, work) -> x.collect(work, 0));
        Edge.noSuch(12, "if there is no such WORK or collection", "the collection", 1, before, (x, number) -> x.collect(0, number));
        Edge.of(12, "if there is no such WORK or collection", "behind the last one of 6", x -> {
            x.work(0, 0);
            sixCollections(x);
            Check.noIndex("collect(0, 6)", () -> x.collect(0, 6));
            x.collect(0, 5);
            Check.noState("it is in 5", () -> x.collect(0, 0));
        });
        Edge.of(12, "if it is in one", "the same one", x -> {
            before.accept(x);
            x.collect(0, 0);
            Check.noState("collect(0, 0)", () -> x.collect(0, 0));
        });
        Edge.of(12, "if it is in one", "another one", x -> {
            x.collection(5, 5);
            x.collection(0, 0);
            Check.posted(x, 0, 0);
            x.collect(0, 0);
            Check.noState("collect(0, 1)", () -> x.collect(0, 1));
            Check.is("it is in the first one", false, x.sees(31, 0));
        });
        Edge.of(12, "Puts a WORK into a collection.", "all 20 WORKS fit into one", x -> {
            x.collection(1, 1);
            for (int i = 0; i < 20; i++) {
                x.collect(Check.posted(x, 0, 0), 0);
                Check.is("sees(31, " + i + ")", false, x.sees(31, i));
            }
        });
        String words = "A WORK, POSTED or not, can be put into one, once; it stays there.";
        Edge.term(words, "a draft", x -> {
            before.accept(x);
            x.collect(0, 0);
            Check.noState("once", () -> x.collect(0, 0));
        });
        Edge.term(words, "a POSTED WORK", x -> {
            x.collection(1, 1);
            Check.posted(x, 0, 0);
            x.collect(0, 0);
            Check.is("sees(31, 0)", false, x.sees(31, 0));
        });
        Edge.term(words, "a draft that is POSTED later is in it still", x -> {
            x.collection(1, 1);
            x.work(0, 0);
            x.chapter(0);
            x.collect(0, 0);
            x.post(0);
            Check.is("sees(31, 0)", false, x.sees(31, 0));
        });
        Edge.term(words, "it stays there when the collection has named", x -> {
            before.accept(x);
            x.collect(0, 0);
            x.pass(100);
            Check.noState("collect(0, 0)", () -> x.collect(0, 0));
        });
    }

    private static void sees() {
        Edge.noSuch(13, "if there is no such FACE or WORK", "the FACE", 32, ONE_WORK, (x, face) -> x.sees(face, 0));
        Edge.noSuch(13, "if there is no such FACE or WORK", "the WORK", 1, ONE_WORK, (x, work) -> x.sees(0, work));
        Edge.of(13, "Tells whether a FACE SEES a WORK.", "each FACE a POSTED one", x -> {
            Check.posted(x, 0, 0);
            for (int face = 0; face < 32; face++) {
                Check.is("sees(" + face + ", 0)", true, x.sees(face, 0));
            }
        });
        Edge.term("if it is an OWNER of it", "though it is a draft, LOCKED, in a collection that is not open", x -> {
            x.collection(2000, 2000);
            threeOwners(x);
            x.lock(0, true);
            x.collect(0, 0);
            for (int face = 0; face < 32; face++) {
                Check.is("sees(" + face + ", 0)", face >= 3 && face <= 5, x.sees(face, 0));
            }
        });
        Edge.term("if it is an OWNER of it", "who left is none", x -> {
            threeOwners(x);
            x.leave(0, 4);
            Check.is("sees(4, 0)", false, x.sees(4, 0));
        });
        Edge.term("if it is an OWNER of it", "the SAME as an OWNER is none", x -> {
            x.work(3, 0);
            x.same(3, 4);
            Check.is("sees(4, 0)", false, x.sees(4, 0));
        });
        Edge.term("the WORK is POSTED", "a draft with a chapter", x -> {
            x.work(0, 0);
            x.chapter(0);
            Check.is("sees(11, 0)", false, x.sees(11, 0));
            x.post(0);
            Check.is("sees(11, 0), POSTED", true, x.sees(11, 0));
        });
        Edge.term("it is not LOCKED, or the FACE is a PERSON", "each FACE", x -> {
            Check.posted(x, 0, 0);
            x.lock(0, true);
            for (int face = 0; face < 32; face++) {
                Check.is("sees(" + face + ", 0)", face < 12, x.sees(face, 0));
            }
        });
        Edge.term("it is not LOCKED, or the FACE is a PERSON", "a visitor who is the SAME as a PERSON is none", x -> {
            Check.posted(x, 0, 0);
            x.lock(0, true);
            x.same(5, 20);
            Check.is("sees(20, 0)", false, x.sees(20, 0));
        });
    }

    private static void seesInCollection() {
        String words = "in one that opened on the DAY of now or ahead of it";
        for (int day : new int[] {4, 5, 6}) {
            Edge.term(words, "it opens on 5, asked on " + day, x -> {
                Check.posted(x, 0, 0);
                x.collection(5, 9);
                x.collect(0, 0);
                x.pass(day);
                Check.is("sees(11, 0)", day >= 5, x.sees(11, 0));
                Check.is("sees(31, 0)", day >= 5, x.sees(31, 0));
            });
        }
        Edge.term(words, "on the last DAY", x -> {
            Check.posted(x, 0, 0);
            x.collection(2000, 2000);
            x.collect(0, 0);
            Check.pass(x, 1999);
            Check.is("sees(31, 0) on 1999", false, x.sees(31, 0));
            x.pass(1);
            Check.is("sees(31, 0) on 2000", true, x.sees(31, 0));
        });
        Edge.term("if all three are so", "each one alone is missing", x -> {
            x.collection(1, 1);
            x.collection(0, 0);
            Check.posted(x, 0, 0);
            x.collect(0, 0);
            Check.posted(x, 0, 0);
            x.collect(1, 1);
            x.lock(1, true);
            x.work(0, 0);
            x.collect(2, 1);
            for (int work = 0; work < 3; work++) {
                Check.is("sees(31, " + work + ")", false, x.sees(31, work));
            }
        });
    }

    private static void owners() {
        Edge.noSuch(14, "if there is no such FACE or WORK", "the FACE", 32, ONE_WORK, (x, face) -> x.owners(face, 0));
        Edge.noSuch(14, "if there is no such FACE or WORK", "the WORK", 1, ONE_WORK, (x, work) -> x.owners(3, work));
        Edge.of(14, "Returns the set; 0 if they are not TOLD, or there are none.", "they are not TOLD", x -> {
            x.work(3, 0);
            Check.is("owners(4, 0)", 0, x.owners(4, 0));
        });
        Edge.of(14, "Returns the set; 0 if they are not TOLD, or there are none.", "there are none", x -> {
            Check.posted(x, 3, 0);
            x.leave(0, 3);
            Check.is("owners(4, 0)", 0, x.owners(4, 0));
        });
        Edge.of(14, "Returns the set of the OWNERS of a WORK, as they are TOLD to a FACE.", "the first and the last PERSON", x -> {
            Check.posted(x, 0, 0);
            x.join(0, 11);
            Check.is("owners(31, 0)", 1 | 1 << 11, x.owners(31, 0));
        });
        String sees = "TOLD to a FACE, if it SEES the WORK";
        Edge.term(sees, "a draft, to an OWNER and another one", x -> {
            x.work(3, 0);
            Check.is("owners(3, 0)", Check.set(3), x.owners(3, 0));
            Check.is("owners(4, 0)", 0, x.owners(4, 0));
        });
        Edge.term(sees, "LOCKED, to the last PERSON and the first visitor", x -> {
            Check.posted(x, 3, 0);
            x.lock(0, true);
            Check.is("owners(11, 0)", Check.set(3), x.owners(11, 0));
            Check.is("owners(12, 0)", 0, x.owners(12, 0));
        });
        Edge.term("or the WORK is in no collection", "POSTED, to all", x -> {
            Check.posted(x, 3, 0);
            Check.is("owners(31, 0)", Check.set(3), x.owners(31, 0));
        });
        Edge.term("and is one of them", "while the collection is not open", x -> {
            threeOwners(x);
            x.collection(5, 9);
            x.collect(0, 0);
            Check.is("owners(4, 0)", Check.set(3, 4, 5), x.owners(4, 0));
        });
        Edge.term("and is one of them", "the SAME as one of them is none", x -> {
            Check.posted(x, 3, 0);
            x.collection(0, 9);
            x.collect(0, 0);
            x.same(3, 20);
            Check.is("owners(20, 0)", 0, x.owners(20, 0));
        });
    }

    private static void ownersInCollection() {
        String words = "in one that named on the DAY of now or ahead of it";
        for (int day : new int[] {1, 2, 4, 5, 6}) {
            Edge.term(words, "it opens on 2 and names on 5, asked on " + day, x -> {
                Check.posted(x, 3, 0);
                x.collection(2, 5);
                x.collect(0, 0);
                x.pass(day);
                Check.is("owners(31, 0)", day >= 5 ? Check.set(3) : 0, x.owners(31, 0));
                Check.is("owners(3, 0)", Check.set(3), x.owners(3, 0));
            });
        }
        Edge.term(words, "it opens and names on the same DAY", x -> {
            Check.posted(x, 3, 0);
            x.collection(0, 0);
            x.collect(0, 0);
            Check.is("owners(31, 0)", Check.set(3), x.owners(31, 0));
        });
        Edge.term(words, "it named, but the WORK is a draft", x -> {
            x.work(3, 0);
            x.collection(0, 0);
            x.collect(0, 0);
            Check.is("owners(4, 0)", 0, x.owners(4, 0));
        });
    }
}
