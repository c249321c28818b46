import java.util.function.Consumer;

/** The boundary cases of promises 32 to 40 and of the terms of comments, kudos and news. */
public final class EdgesOfCommentsTest {
    private static final Consumer<Tagwranglery> POSTED = x -> Check.posted(x, 0, 0);

    public static void main(String[] args) {
        screen();
        commentNoSuch();
        commentMost();
        commentOfAnother();
        commentNotSeen();
        commentFrozen();
        commentBlocked();
        change();
        changesOfComments();
        reads();
        readsComments();
        kudos();
        kudosOfTheSame();
        subscribe();
        news();
        newsOfThoseSubscribed();
        newsOfOwners();
        newsInCollections();
        digest();
        Edge.end(32, 40, "Comments, kudos, news");
    }

    private static void screen() {
        Edge.noSuch(32, "if there is no such WORK", "the WORK", 1, POSTED, (x, work) -> x.screen(work, true));
        Edge.of(32, "Returns whether it did.", "on, and on again", x -> {
            POSTED.accept(x);
            Check.is("on", false, x.screen(0, true));
            Check.is("on again", true, x.screen(0, true));
        });
        Edge.of(32, "Returns whether it did.", "off, and off again", x -> {
            POSTED.accept(x);
            x.screen(0, true);
            Check.is("off", true, x.screen(0, false));
            Check.is("off again", false, x.screen(0, false));
        });
        Edge.of(32, "Tells whether a WORK screens, from now on.", "those of before are shown", x -> {
            POSTED.accept(x);
            x.comment(0, 5, -1);
            x.screen(0, true);
            Check.is("reads(0, 6)", 1, x.reads(0, 6));
        });
        String words = "On a WORK that screens, those by FACES that are no OWNERS of it are SCREENED as they come.";
        Edge.term(words, "they stay SCREENED when it screens no more", x -> {
            POSTED.accept(x);
            x.screen(0, true);
            x.comment(0, 5, -1);
            x.screen(0, false);
            Check.is("reads(0, 6)", 0, x.reads(0, 6));
            x.comment(0, 5, -1);
            Check.is("the next one is shown", 1, x.reads(0, 6));
        });
        Edge.term(words, "each of three OWNERS", x -> {
            POSTED.accept(x);
            x.join(0, 5);
            x.join(0, 11);
            x.screen(0, true);
            x.comment(0, 0, -1);
            x.comment(0, 5, -1);
            x.comment(0, 11, -1);
            Check.is("reads(0, 31)", 3, x.reads(0, 31));
        });
        Edge.term(words, "who is no OWNER any more", x -> {
            POSTED.accept(x);
            x.screen(0, true);
            x.leave(0, 0);
            x.comment(0, 0, -1);
            Check.is("reads(0, 31)", 0, x.reads(0, 31));
        });
        Edge.term(words, "the SAME as an OWNER is none", x -> {
            POSTED.accept(x);
            x.same(0, 20);
            x.screen(0, true);
            x.comment(0, 20, -1);
            Check.is("reads(0, 31)", 0, x.reads(0, 31));
        });
        Edge.term(words, "another WORK does not screen", x -> {
            POSTED.accept(x);
            POSTED.accept(x);
            x.screen(0, true);
            x.comment(1, 5, -1);
            Check.is("reads(1, 31)", 1, x.reads(1, 31));
        });
    }

    private static void commentNoSuch() {
        String words = "if there is no such WORK, FACE or comment";
        Edge.noSuch(33, words, "the WORK", 1, POSTED, (x, work) -> x.comment(work, 0, -1));
        Edge.noSuch(33, words, "the FACE", 32, POSTED, (x, face) -> x.comment(0, face, -1));
        for (int beneath : new int[] {-2, 1, 32, 60, Integer.MIN_VALUE, Integer.MAX_VALUE}) {
            Edge.of(33, words, "the comment " + beneath, x -> {
                POSTED.accept(x);
                x.comment(0, 5, -1);
                Check.noIndex("comment(0, 5, " + beneath + ")", () -> x.comment(0, 5, beneath));
            });
        }
        Edge.of(33, words, "the one that comes by the call itself", x -> {
            POSTED.accept(x);
            Check.noIndex("comment(0, 5, 0)", () -> x.comment(0, 5, 0));
            Check.is("none has come", 0, x.reads(0, 5));
        });
        Edge.of(33, "the number of a comment, or NONE", "NONE", x -> {
            POSTED.accept(x);
            Check.is("comment(0, 5, NONE)", 0, x.comment(0, 5, Tagwranglery.NONE));
        });
        Edge.of(33, "the number of a comment, or NONE", "comment 0 is not NONE", x -> {
            POSTED.accept(x);
            x.comment(0, 5, -1);
            x.comment(0, 5, 0);
            x.change(0, 0);
            Check.noState("beneath one that is FROZEN", () -> x.comment(0, 5, 1));
        });
    }

    private static void commentMost() {
        Edge.of(33, "Returns its number.", "from 0 to 59, over all WORKS", x -> {
            POSTED.accept(x);
            POSTED.accept(x);
            for (int i = 0; i < 60; i++) {
                Check.is("comment " + i, i, x.comment(i % 2, i % 32, -1));
            }
        });
        Edge.of(33, "if there are 60", "a 61st one", x -> {
            POSTED.accept(x);
            thread(x, 60);
            Check.noState("on its own", () -> x.comment(0, 5, -1));
            Check.noState("beneath another one", () -> x.comment(0, 5, 59));
            Check.noState("by the OWNER", () -> x.comment(0, 0, -1));
            Check.noIndex("it has not come", () -> x.change(60, 0));
            Check.is("reads(0, 5)", 60, x.reads(0, 5));
        });
        Edge.of(33, "if there are 60", "those that are REMOVED count", x -> {
            POSTED.accept(x);
            thread(x, 60);
            x.change(59, 3);
            Check.noState("comment(0, 5, -1)", () -> x.comment(0, 5, -1));
        });
        Edge.of(33, "Adds a comment.", "all FACES, the same one more than once", x -> {
            POSTED.accept(x);
            for (int face = 0; face < 32; face++) {
                x.comment(0, face, -1);
            }
            x.comment(0, 31, -1);
            Check.is("reads(0, 31)", 33, x.reads(0, 31));
        });
    }

    /** Comments of FACE 5 on WORK 0, each beneath the one before. */
    private static void thread(Tagwranglery x, int count) {
        for (int i = 0; i < count; i++) {
            x.comment(0, 5, i - 1);
        }
    }

    private static void commentOfAnother() {
        String words = "if the comment is on another WORK";
        Edge.of(33, words, "of two WORKS", x -> {
            POSTED.accept(x);
            POSTED.accept(x);
            x.comment(0, 5, -1);
            Check.noArgument("comment(1, 5, 0)", () -> x.comment(1, 5, 0));
            Check.is("comment(0, 5, 0)", 1, x.comment(0, 5, 0));
        });
        Edge.of(33, words, "the last WORK of 20 and the first one", x -> {
            for (int work = 0; work < 20; work++) {
                POSTED.accept(x);
            }
            x.comment(19, 5, -1);
            Check.noArgument("comment(0, 5, 0)", () -> x.comment(0, 5, 0));
            Check.is("comment(19, 5, 0)", 1, x.comment(19, 5, 0));
        });
        Edge.term("on its own or beneath another one on the same WORK", "both", x -> {
            POSTED.accept(x);
            Check.is("on its own", 0, x.comment(0, 5, -1));
            Check.is("beneath", 1, x.comment(0, 6, 0));
            Check.is("on its own again", 2, x.comment(0, 7, -1));
        });
    }

    private static void commentNotSeen() {
        String seen = "the FACE does not SEE the WORK";
        Edge.of(33, seen, "a draft", x -> {
            x.work(0, 0);
            Check.noState("by another one", () -> x.comment(0, 5, -1));
            Check.is("by its OWNER", 0, x.comment(0, 0, -1));
        });
        Edge.of(33, seen, "LOCKED", x -> {
            POSTED.accept(x);
            x.lock(0, true);
            Check.noState("by a visitor", () -> x.comment(0, 12, -1));
            Check.is("by a PERSON", 0, x.comment(0, 11, -1));
        });
        Edge.of(33, seen, "a DAY ahead of opening, and on it", x -> {
            POSTED.accept(x);
            x.collection(1, 1);
            x.collect(0, 0);
            Check.noState("on DAY 0", () -> x.comment(0, 5, -1));
            x.pass(1);
            Check.is("on DAY 1", 0, x.comment(0, 5, -1));
        });
        String read = "or read that comment";
        Edge.of(33, read, "SCREENED", x -> {
            POSTED.accept(x);
            x.screen(0, true);
            x.comment(0, 5, -1);
            Check.noState("by another one", () -> x.comment(0, 6, 0));
            Check.is("by the one who wrote it", 1, x.comment(0, 5, 0));
            Check.is("by the OWNER", 2, x.comment(0, 0, 0));
            x.change(0, 2);
            Check.is("by another one, as it is shown", 3, x.comment(0, 6, 0));
        });
        Edge.of(33, read, "REMOVED", x -> {
            POSTED.accept(x);
            x.comment(0, 5, -1);
            x.change(0, 3);
            Check.noState("by another one", () -> x.comment(0, 6, 0));
            Check.noState("by the one who wrote it", () -> x.comment(0, 5, 0));
            Check.noState("by the OWNER", () -> x.comment(0, 0, 0));
        });
        Edge.of(33, read, "what that one is beneath need not be read", x -> {
            POSTED.accept(x);
            x.comment(0, 5, -1);
            x.comment(0, 5, 0);
            x.change(0, 3);
            Check.is("comment(0, 6, 1)", 2, x.comment(0, 6, 1));
        });
    }

    private static void commentFrozen() {
        String words = "that one or one that it is beneath is FROZEN";
        Edge.of(33, words, "that one", x -> {
            POSTED.accept(x);
            thread(x, 1);
            x.change(0, 0);
            Check.noState("by another one", () -> x.comment(0, 6, 0));
            Check.noState("by the one who wrote it", () -> x.comment(0, 5, 0));
            Check.noState("by the OWNER", () -> x.comment(0, 0, 0));
        });
        Edge.of(33, words, "not FROZEN any more", x -> {
            POSTED.accept(x);
            thread(x, 1);
            x.change(0, 0);
            x.change(0, 1);
            Check.is("comment(0, 6, 0)", 1, x.comment(0, 6, 0));
        });
        Edge.of(33, words, "one beneath it, or beside it", x -> {
            POSTED.accept(x);
            thread(x, 2);
            x.comment(0, 5, 0);
            x.change(1, 0);
            Check.is("beneath what it is beneath", 3, x.comment(0, 6, 0));
            Check.is("beneath what is beside it", 4, x.comment(0, 6, 2));
            Check.is("on its own", 5, x.comment(0, 6, -1));
        });
        Edge.of(33, words, "one that is REMOVED", x -> {
            POSTED.accept(x);
            thread(x, 2);
            x.change(0, 0);
            x.change(0, 3);
            Check.noState("comment(0, 6, 1)", () -> x.comment(0, 6, 1));
        });
        String beneath = "what is beneath what is beneath one, and so on, is beneath it, too";
        Edge.term(beneath, "the first of a thread of 59 is FROZEN", x -> {
            POSTED.accept(x);
            thread(x, 59);
            x.change(0, 0);
            Check.noState("comment(0, 6, 58)", () -> x.comment(0, 6, 58));
            x.change(0, 1);
            Check.is("not FROZEN any more", 59, x.comment(0, 6, 58));
        });
        Edge.term(beneath, "the one in the middle is FROZEN", x -> {
            POSTED.accept(x);
            thread(x, 5);
            x.change(2, 0);
            for (int i = 2; i < 5; i++) {
                int comment = i;
                Check.noState("beneath " + i, () -> x.comment(0, 6, comment));
            }
            Check.is("beneath 1", 5, x.comment(0, 6, 1));
        });
    }

    private static void commentBlocked() {
        String owner = "an OWNER of the WORK, or who wrote that one, BLOCKS the FACE";
        for (int blocks = 0; blocks < 3; blocks++) {
            int person = new int[] {0, 5, 11}[blocks];
            Edge.of(33, owner, "OWNER " + person + " of 0, 5 and 11", x -> {
                POSTED.accept(x);
                x.join(0, 5);
                x.join(0, 11);
                x.block(person, 7, true);
                Check.noState("on its own", () -> x.comment(0, 7, -1));
                Check.is("another one", 0, x.comment(0, 8, -1));
                Check.noState("beneath", () -> x.comment(0, 7, 0));
            });
        }
        Edge.of(33, owner, "who is no OWNER any more", x -> {
            POSTED.accept(x);
            x.join(0, 5);
            x.block(5, 7, true);
            x.leave(0, 5);
            Check.is("comment(0, 7, -1)", 0, x.comment(0, 7, -1));
        });
        Edge.of(33, owner, "who wrote that one, the first and the last PERSON", x -> {
            Check.posted(x, 3, 0);
            x.comment(0, 0, -1);
            x.comment(0, 11, -1);
            x.block(0, 11, true);
            x.block(11, 0, true);
            Check.noState("comment(0, 11, 0)", () -> x.comment(0, 11, 0));
            Check.noState("comment(0, 0, 1)", () -> x.comment(0, 0, 1));
            Check.is("comment(0, 11, -1)", 2, x.comment(0, 11, -1));
        });
        Edge.of(33, owner, "who wrote what that one is beneath", x -> {
            POSTED.accept(x);
            x.comment(0, 5, -1);
            x.comment(0, 6, 0);
            x.block(5, 7, true);
            Check.noState("beneath theirs", () -> x.comment(0, 7, 0));
            Check.is("beneath another one's", 2, x.comment(0, 7, 1));
        });
        Edge.of(33, owner, "the FACE BLOCKS them", x -> {
            POSTED.accept(x);
            x.comment(0, 5, -1);
            x.block(7, 0, true);
            x.block(7, 5, true);
            Check.is("comment(0, 7, 0)", 1, x.comment(0, 7, 0));
        });
        Edge.of(33, owner, "the SAME as one who is BLOCKED, and as one who BLOCKS", x -> {
            POSTED.accept(x);
            x.comment(0, 20, -1);
            x.block(0, 7, true);
            x.same(7, 8);
            x.same(9, 20);
            x.block(9, 8, true);
            Check.is("comment(0, 8, -1)", 1, x.comment(0, 8, -1));
            Check.is("comment(0, 8, 0)", 2, x.comment(0, 8, 0));
            Check.noState("comment(0, 7, -1)", () -> x.comment(0, 7, -1));
        });
        Edge.of(33, owner, "a visitor wrote that one", x -> {
            POSTED.accept(x);
            x.comment(0, 12, -1);
            x.comment(0, 31, -1);
            Check.is("comment(0, 7, 0)", 2, x.comment(0, 7, 0));
            Check.is("comment(0, 7, 1)", 3, x.comment(0, 7, 1));
        });
        Edge.of(33, owner, "an OWNER BLOCKS another OWNER", x -> {
            POSTED.accept(x);
            x.join(0, 5);
            x.block(5, 0, true);
            Check.noState("comment(0, 0, -1)", () -> x.comment(0, 0, -1));
            Check.is("comment(0, 5, -1)", 0, x.comment(0, 5, -1));
        });
    }

    private static void change() {
        String noSuch = "if there is no such comment";
        Edge.noSuch(34, noSuch, "of none, comment", 0, POSTED, (x, comment) -> x.change(comment, 0));
        for (int comment : new int[] {-1, -2, 60, 64, Integer.MIN_VALUE, Integer.MAX_VALUE}) {
            Edge.of(34, noSuch, "of 60, comment " + comment, x -> {
                POSTED.accept(x);
                thread(x, 60);
                Check.noIndex("change(" + comment + ", 0)", () -> x.change(comment, 0));
                Check.is("change(59, 0)", true, x.change(59, 0));
            });
        }
        Edge.outOfRange(34, "if what is out of range", "what", 0, 3, x -> {
            POSTED.accept(x);
            thread(x, 1);
        }, (x, what) -> x.change(0, what));
        String returns = "Returns whether that changes something.";
        Edge.of(34, returns, "FROZEN twice", x -> changed(x, false, 0, true, false));
        Edge.of(34, returns, "not FROZEN at first", x -> changed(x, false, 1, false, false));
        Edge.of(34, returns, "shown at first", x -> changed(x, false, 2, false, false));
        Edge.of(34, returns, "SCREENED, shown twice", x -> changed(x, true, 2, true, false));
        Edge.of(34, returns, "REMOVED twice", x -> changed(x, false, 3, true, false));
        Edge.of(34, returns, "SCREENED, FROZEN twice", x -> changed(x, true, 0, true, false));
        Edge.of(34, returns, "SCREENED, REMOVED twice", x -> changed(x, true, 3, true, false));
        Edge.of(34, "0 it is FROZEN, 1 it is not FROZEN, 2 it is shown, 3 it is REMOVED", "the OWNERS and who wrote it may go", x -> {
            POSTED.accept(x);
            thread(x, 1);
            x.leave(0, 0);
            Check.is("change(0, 0)", true, x.change(0, 0));
            Check.is("change(0, 1)", true, x.change(0, 1));
            Check.is("change(0, 3)", true, x.change(0, 3));
        });
        Edge.of(34, "Changes a comment.", "no other one", x -> {
            POSTED.accept(x);
            thread(x, 3);
            x.change(1, 3);
            Check.is("reads(0, 6)", 2, x.reads(0, 6));
            Check.is("change(0, 3)", true, x.change(0, 3));
            Check.is("change(2, 3)", true, x.change(2, 3));
        });
    }

    private static void changed(Tagwranglery x, boolean screened, int what, boolean once, boolean twice) {
        POSTED.accept(x);
        x.screen(0, screened);
        x.comment(0, 5, -1);
        Check.is("change(0, " + what + ")", once, x.change(0, what));
        Check.is("change(0, " + what + ") again", twice, x.change(0, what));
    }

    private static void changesOfComments() {
        String words = "A comment can be FROZEN, or not; REMOVED, for good; SCREENED, or shown.";
        Edge.term(words, "FROZEN, not FROZEN, and FROZEN again", x -> {
            POSTED.accept(x);
            thread(x, 1);
            x.change(0, 0);
            Check.is("change(0, 1)", true, x.change(0, 1));
            Check.is("change(0, 0)", true, x.change(0, 0));
        });
        Edge.term(words, "REMOVED, whatever comes", x -> {
            POSTED.accept(x);
            x.screen(0, true);
            thread(x, 1);
            x.change(0, 3);
            for (int what = 0; what < 3; what++) {
                x.change(0, what);
            }
            Check.is("reads(0, 0)", 0, x.reads(0, 0));
            Check.is("reads(0, 5)", 0, x.reads(0, 5));
            Check.is("change(0, 3)", false, x.change(0, 3));
        });
        Edge.term(words, "REMOVED, it can be FROZEN and SCREENED as any", x -> {
            POSTED.accept(x);
            x.screen(0, true);
            thread(x, 1);
            x.change(0, 3);
            Check.is("change(0, 0)", true, x.change(0, 0));
            Check.is("change(0, 1)", true, x.change(0, 1));
            Check.is("change(0, 2)", true, x.change(0, 2));
        });
        Edge.term("Comments are numbered from 0, at most 60, each on a WORK by a FACE", "the last one is as any", x -> {
            POSTED.accept(x);
            thread(x, 59);
            x.screen(0, true);
            Check.is("comment(0, 31, 58)", 59, x.comment(0, 31, 58));
            Check.is("SCREENED", 59, x.reads(0, 6));
            Check.is("change(59, 2)", true, x.change(59, 2));
            Check.is("shown", 60, x.reads(0, 6));
        });
    }

    private static void reads() {
        Edge.noSuch(35, "if there is no such WORK or FACE", "the WORK", 1, POSTED, (x, work) -> x.reads(work, 0));
        Edge.noSuch(35, "if there is no such WORK or FACE", "the FACE", 32, POSTED, (x, face) -> x.reads(0, face));
        String words = "Returns how many comments on a WORK a FACE reads.";
        Edge.of(35, words, "none", x -> {
            POSTED.accept(x);
            Check.is("reads(0, 0)", 0, x.reads(0, 0));
        });
        Edge.of(35, words, "60", x -> {
            POSTED.accept(x);
            thread(x, 60);
            Check.is("reads(0, 31)", 60, x.reads(0, 31));
        });
        Edge.of(35, words, "those of another WORK do not count", x -> {
            POSTED.accept(x);
            POSTED.accept(x);
            x.comment(1, 5, -1);
            Check.is("reads(0, 5)", 0, x.reads(0, 5));
            Check.is("reads(1, 5)", 1, x.reads(1, 5));
        });
    }

    private static void readsComments() {
        Edge.term("A FACE reads a comment, if all three are so: it SEES the WORK", "who wrote it does not SEE it any more", x -> {
            POSTED.accept(x);
            x.comment(0, 12, -1);
            x.lock(0, true);
            Check.is("reads(0, 12)", 0, x.reads(0, 12));
            Check.is("reads(0, 11)", 1, x.reads(0, 11));
        });
        Edge.term("it SEES the WORK", "a draft", x -> {
            x.work(0, 0);
            x.comment(0, 0, -1);
            Check.is("reads(0, 0)", 1, x.reads(0, 0));
            Check.is("reads(0, 5)", 0, x.reads(0, 5));
        });
        Edge.term("the comment is not REMOVED", "to all", x -> {
            POSTED.accept(x);
            thread(x, 1);
            x.change(0, 3);
            Check.is("the OWNER", 0, x.reads(0, 0));
            Check.is("who wrote it", 0, x.reads(0, 5));
            Check.is("another one", 0, x.reads(0, 6));
        });
        String words = "the comment is not SCREENED, or is by that FACE, or that FACE is an OWNER of the WORK";
        Edge.term(words, "each FACE", x -> {
            POSTED.accept(x);
            x.join(0, 11);
            x.screen(0, true);
            x.comment(0, 20, -1);
            for (int face = 0; face < 32; face++) {
                Check.is("reads(0, " + face + ")", face == 0 || face == 11 || face == 20 ? 1 : 0, x.reads(0, face));
            }
        });
        Edge.term(words, "the SAME as who wrote it, or as an OWNER", x -> {
            POSTED.accept(x);
            x.screen(0, true);
            x.comment(0, 20, -1);
            x.same(20, 21);
            x.same(0, 22);
            Check.is("reads(0, 21)", 0, x.reads(0, 21));
            Check.is("reads(0, 22)", 0, x.reads(0, 22));
        });
        Edge.term(words, "who becomes an OWNER, and is none any more", x -> {
            POSTED.accept(x);
            x.screen(0, true);
            x.comment(0, 20, -1);
            x.join(0, 5);
            Check.is("an OWNER", 1, x.reads(0, 5));
            x.leave(0, 5);
            Check.is("no OWNER any more", 0, x.reads(0, 5));
        });
        Edge.term(words, "FROZEN ones, and those beneath one that is not read", x -> {
            POSTED.accept(x);
            thread(x, 3);
            x.change(1, 0);
            x.change(0, 3);
            Check.is("reads(0, 31)", 2, x.reads(0, 31));
        });
    }

    private static void kudos() {
        Edge.noSuch(36, "if there is no such WORK or FACE", "the WORK", 1, POSTED, (x, work) -> x.kudos(work, 5));
        Edge.noSuch(36, "if there is no such WORK or FACE", "the FACE", 32, POSTED, (x, face) -> x.kudos(0, face));
        String seen = "if the FACE does not SEE the WORK";
        Edge.of(36, seen, "a draft", x -> {
            x.work(0, 0);
            Check.noState("kudos(0, 5)", () -> x.kudos(0, 5));
        });
        Edge.of(36, seen, "LOCKED", x -> {
            POSTED.accept(x);
            x.lock(0, true);
            Check.noState("the first visitor", () -> x.kudos(0, 12));
            Check.is("the last PERSON", 1, x.kudos(0, 11));
        });
        Edge.of(36, seen, "a DAY ahead of opening, and on it", x -> {
            POSTED.accept(x);
            x.collection(1, 2);
            x.collect(0, 0);
            Check.noState("on DAY 0", () -> x.kudos(0, 5));
            x.pass(1);
            Check.is("on DAY 1", 1, x.kudos(0, 5));
        });
        String owner = "is an OWNER of it";
        Edge.of(36, owner, "each of three", x -> {
            POSTED.accept(x);
            x.join(0, 5);
            x.join(0, 11);
            Check.noState("kudos(0, 0)", () -> x.kudos(0, 0));
            Check.noState("kudos(0, 5)", () -> x.kudos(0, 5));
            Check.noState("kudos(0, 11)", () -> x.kudos(0, 11));
        });
        Edge.of(36, owner, "no OWNER any more", x -> {
            POSTED.accept(x);
            x.leave(0, 0);
            Check.is("kudos(0, 0)", 1, x.kudos(0, 0));
        });
        Edge.of(36, owner, "the SAME as an OWNER is none", x -> {
            POSTED.accept(x);
            x.same(0, 20);
            Check.is("kudos(0, 20)", 1, x.kudos(0, 20));
        });
        Edge.of(36, "Returns how many have given them then.", "all that can", x -> {
            POSTED.accept(x);
            for (int face = 1; face < 32; face++) {
                Check.is("kudos(0, " + face + ")", face, x.kudos(0, face));
            }
            Check.is("liked(0)", 31, x.liked(0));
        });
        Edge.of(36, "Gives kudos.", "one who became an OWNER later has given them", x -> {
            POSTED.accept(x);
            x.kudos(0, 5);
            x.join(0, 5);
            Check.is("liked(0)", 1, x.liked(0));
            x.leave(0, 5);
            Check.noState("kudos(0, 5)", () -> x.kudos(0, 5));
        });
        Edge.noSuch(37, "if there is no such WORK", "the WORK", 1, POSTED, (x, work) -> x.liked(work));
        Edge.of(37, "Returns how many have given kudos to a WORK.", "none", x -> {
            POSTED.accept(x);
            Check.is("liked(0)", 0, x.liked(0));
        });
        Edge.of(37, "Returns how many have given kudos to a WORK.", "of the first and the last WORK", x -> {
            for (int work = 0; work < 20; work++) {
                POSTED.accept(x);
            }
            x.kudos(19, 5);
            Check.is("liked(19)", 1, x.liked(19));
            Check.is("liked(0)", 0, x.liked(0));
        });
        Edge.of(37, "Returns how many have given kudos to a WORK.", "of one that is LOCKED since", x -> {
            POSTED.accept(x);
            x.kudos(0, 31);
            x.lock(0, true);
            Check.is("liked(0)", 1, x.liked(0));
        });
    }

    private static void kudosOfTheSame() {
        String given = "or it, or one that is the SAME, has given them";
        Edge.of(36, given, "it", x -> {
            POSTED.accept(x);
            x.kudos(0, 31);
            Check.noState("kudos(0, 31)", () -> x.kudos(0, 31));
            Check.is("liked(0)", 1, x.liked(0));
        });
        Edge.of(36, given, "one that is the SAME, both ways", x -> {
            POSTED.accept(x);
            x.same(1, 31);
            x.same(2, 30);
            x.kudos(0, 1);
            x.kudos(0, 30);
            Check.noState("kudos(0, 31)", () -> x.kudos(0, 31));
            Check.noState("kudos(0, 2)", () -> x.kudos(0, 2));
        });
        Edge.of(36, given, "one that is the SAME since", x -> {
            POSTED.accept(x);
            x.kudos(0, 5);
            x.same(5, 6);
            x.same(6, 7);
            Check.noState("kudos(0, 7)", () -> x.kudos(0, 7));
        });
        Edge.of(36, given, "to another WORK", x -> {
            POSTED.accept(x);
            POSTED.accept(x);
            x.kudos(0, 5);
            Check.is("kudos(1, 5)", 1, x.kudos(1, 5));
        });
        Edge.of(36, given, "the SAME was an OWNER and gave none", x -> {
            POSTED.accept(x);
            x.same(0, 20);
            x.leave(0, 0);
            Check.is("kudos(0, 0)", 1, x.kudos(0, 0));
            Check.noState("kudos(0, 20)", () -> x.kudos(0, 20));
        });
        String once = "it counts how many have given them, FACES that are the SAME once";
        Edge.term(once, "two that became the SAME", x -> {
            POSTED.accept(x);
            x.kudos(0, 1);
            x.kudos(0, 31);
            x.same(1, 31);
            Check.is("liked(0)", 1, x.liked(0));
        });
        Edge.term(once, "two that became the SAME by a third one that gave none", x -> {
            POSTED.accept(x);
            x.kudos(0, 5);
            x.kudos(0, 7);
            x.same(5, 6);
            Check.is("not yet", 2, x.liked(0));
            x.same(6, 7);
            Check.is("liked(0)", 1, x.liked(0));
        });
        Edge.term(once, "all 31 that gave them", x -> {
            POSTED.accept(x);
            for (int face = 1; face < 32; face++) {
                x.kudos(0, face);
            }
            for (int face = 1; face < 31; face++) {
                x.same(face, face + 1);
                Check.is("liked(0)", 31 - face, x.liked(0));
            }
        });
        Edge.term(once, "told by kudos(), too", x -> {
            POSTED.accept(x);
            x.kudos(0, 1);
            x.kudos(0, 31);
            x.same(1, 31);
            Check.is("kudos(0, 2)", 2, x.kudos(0, 2));
        });
    }

    private static void subscribe() {
        String noSuch = "if there is no such PERSON, or WORK";
        Edge.noSuch(38, noSuch, "who does", 12, POSTED, (x, person) -> x.subscribe(person, false, 0));
        Edge.noSuch(38, noSuch, "the WORK", 1, POSTED, (x, work) -> x.subscribe(0, false, work));
        Edge.noSuch(38, noSuch, "the PERSON", 12, POSTED, (x, person) -> x.subscribe(0, true, person));
        Edge.of(38, noSuch, "a PERSON's number that is no WORK's", x -> {
            POSTED.accept(x);
            Check.is("the PERSON", true, x.subscribe(0, true, 11));
            Check.noIndex("the WORK", () -> x.subscribe(0, false, 11));
        });
        Edge.of(38, noSuch, "a WORK's number that is no PERSON's", x -> {
            for (int work = 0; work < 20; work++) {
                x.work(0, 0);
            }
            Check.is("the WORK", true, x.subscribe(11, false, 19));
            Check.noIndex("the PERSON", () -> x.subscribe(11, true, 19));
            Check.noIndex("behind the last WORK", () -> x.subscribe(11, false, 20));
        });
        String returns = "Returns whether they had not so far.";
        Edge.of(38, returns, "a WORK, twice", x -> {
            POSTED.accept(x);
            Check.is("once", true, x.subscribe(5, false, 0));
            Check.is("twice", false, x.subscribe(5, false, 0));
        });
        Edge.of(38, returns, "a PERSON, twice", x -> {
            Check.is("once", true, x.subscribe(5, true, 0));
            Check.is("twice", false, x.subscribe(5, true, 0));
        });
        Edge.of(38, returns, "a WORK and a PERSON of the same number", x -> {
            POSTED.accept(x);
            x.subscribe(5, false, 0);
            Check.is("the PERSON", true, x.subscribe(5, true, 0));
        });
        Edge.of(38, returns, "each PERSON on their own, also the SAME", x -> {
            POSTED.accept(x);
            x.same(0, 11);
            x.subscribe(0, false, 0);
            Check.is("PERSON 11", true, x.subscribe(11, false, 0));
        });
        Edge.of(38, "Subscribes a WORK or a PERSON.", "oneself, and one's own WORK", x -> {
            POSTED.accept(x);
            Check.is("oneself", true, x.subscribe(0, true, 0));
            Check.is("one's own WORK", true, x.subscribe(0, false, 0));
        });
        Edge.of(38, "Subscribes a WORK or a PERSON.", "a WORK that is not SEEN", x -> {
            x.work(0, 0);
            Check.is("subscribe(5, false, 0)", true, x.subscribe(5, false, 0));
            x.chapter(0);
            x.post(0);
            Check.is("news(5)", 1, x.news(5));
        });
        String first = "A PERSON subscribes WORKS and PEOPLE, each with the DAY on which they did so first.";
        for (boolean isPerson : new boolean[] {true, false}) {
            Edge.term(first, "once more on a later DAY, a PERSON: " + isPerson, x -> {
                x.work(0, 0);
                x.subscribe(5, isPerson, 0);
                x.chapter(0);
                x.post(0);
                x.pass(1);
                x.subscribe(5, isPerson, 0);
                Check.is("digest(5)", 1, x.digest(5));
            });
        }
    }

    private static void news() {
        Edge.noSuch(39, "if there is no such PERSON", "the PERSON", 12, POSTED, (x, person) -> x.news(person));
        String words = "Returns the set of the WORKS of which a PERSON has news.";
        Edge.of(39, words, "without WORKS", x -> {
            x.subscribe(11, true, 0);
            Check.is("news(11)", 0, x.news(11));
        });
        Edge.of(39, words, "all 20", x -> {
            x.subscribe(11, true, 0);
            for (int work = 0; work < 20; work++) {
                POSTED.accept(x);
            }
            Check.is("news(11)", (1 << 20) - 1, x.news(11));
        });
        Edge.of(39, words, "asked twice", x -> {
            x.subscribe(5, true, 0);
            POSTED.accept(x);
            Check.is("news(5)", 1, x.news(5));
            Check.is("news(5) again", 1, x.news(5));
        });
        Edge.term("of a POSTED WORK", "a draft that they subscribed", x -> {
            x.work(0, 0);
            x.chapter(0);
            x.subscribe(5, false, 0);
            Check.is("a draft", 0, x.news(5));
            x.post(0);
            Check.is("POSTED", 1, x.news(5));
        });
        Edge.term("of a POSTED WORK", "a draft that they left", x -> {
            x.work(5, 0);
            x.chapter(0);
            x.subscribe(5, false, 0);
            x.leave(0, 5);
            Check.is("news(5)", 0, x.news(5));
        });
        Edge.term("that they SEE", "in a collection, a DAY ahead of opening, and on it", x -> {
            POSTED.accept(x);
            x.collection(1, 9);
            x.collect(0, 0);
            x.subscribe(5, false, 0);
            Check.is("on DAY 0", 0, x.news(5));
            Check.is("digest(5) on DAY 0", 0, x.digest(5));
            x.pass(1);
            Check.is("on DAY 1", 1, x.news(5));
        });
        Edge.term("that they SEE", "LOCKED, as PEOPLE SEE it", x -> {
            POSTED.accept(x);
            x.lock(0, true);
            x.subscribe(11, false, 0);
            Check.is("news(11)", 1, x.news(11));
        });
        Edge.term("and of which they are no OWNER", "an OWNER, and no OWNER any more", x -> {
            POSTED.accept(x);
            x.join(0, 5);
            x.subscribe(5, false, 0);
            x.subscribe(5, true, 0);
            Check.is("an OWNER", 0, x.news(5));
            Check.is("digest of an OWNER", 0, x.digest(5));
            x.leave(0, 5);
            Check.is("no OWNER any more", 1, x.news(5));
        });
        Edge.term("and of which they are no OWNER", "the SAME as an OWNER is none", x -> {
            POSTED.accept(x);
            x.same(0, 5);
            x.subscribe(5, false, 0);
            Check.is("news(5)", 1, x.news(5));
        });
    }

    private static void newsOfThoseSubscribed() {
        String words = "with an OUT DAY not before the DAY on which they subscribed the WORK";
        for (int day : new int[] {4, 5, 6}) {
            Edge.term(words, "OUT on 5, subscribed on " + day + " ahead of that or behind", x -> {
                x.work(0, 0);
                x.chapter(0);
                dayBefore(x, 5, day, false);
                Check.is("digest(7)", day <= 5 ? 1 : 0, x.digest(7));
            });
            Edge.term("or an OWNER of it, if the OWNERS are TOLD to them", "OUT on 5, subscribed on " + day, x -> {
                x.work(0, 0);
                x.chapter(0);
                dayBefore(x, 5, day, true);
                Check.is("digest(7)", day <= 5 ? 1 : 0, x.digest(7));
            });
        }
        Edge.term(words, "each on the last DAY", x -> {
            x.work(0, 0);
            x.chapter(0);
            Check.pass(x, 2000);
            x.post(0);
            x.subscribe(7, false, 0);
            Check.is("digest(7)", 1, x.digest(7));
            Check.is("not who did not subscribe", 0, x.digest(8));
        });
        Edge.term(words, "the WORK earlier than an OWNER, and the other way", x -> {
            x.work(0, 0);
            x.subscribe(7, false, 0);
            x.subscribe(8, true, 0);
            x.chapter(0);
            x.post(0);
            x.pass(1);
            x.subscribe(7, true, 0);
            x.subscribe(8, false, 0);
            Check.is("digest(7)", 1, x.digest(7));
            Check.is("digest(8)", 1, x.digest(8));
        });
        Edge.term(words, "neither", x -> {
            POSTED.accept(x);
            POSTED.accept(x);
            x.subscribe(7, true, 1);
            x.subscribe(7, false, 1);
            Check.is("news(7)", Check.set(1), x.news(7));
        });
    }

    /** WORK 0 is POSTED on a DAY, and PERSON 7 subscribes it or its OWNER on one, up to DAY 9. */
    private static void dayBefore(Tagwranglery x, int posted, int subscribed, boolean isPerson) {
        for (int day = 0; day < 9; day++) {
            if (day == posted) {
                x.post(0);
            }
            if (day == subscribed) {
                x.subscribe(7, isPerson, 0);
            }
            x.pass(1);
        }
    }

    private static void newsOfOwners() {
        String words = "or an OWNER of it, if the OWNERS are TOLD to them";
        for (int owner : new int[] {0, 5, 11}) {
            Edge.term(words, "OWNER " + owner + " of 0, 5 and 11", x -> {
                POSTED.accept(x);
                x.join(0, 5);
                x.join(0, 11);
                x.subscribe(7, true, owner);
                Check.is("news(7)", 1, x.news(7));
            });
        }
        Edge.term(words, "who is no OWNER any more", x -> {
            POSTED.accept(x);
            x.subscribe(7, true, 0);
            x.leave(0, 0);
            Check.is("news(7)", 0, x.news(7));
        });
        Edge.term(words, "who became an OWNER later", x -> {
            POSTED.accept(x);
            x.subscribe(7, true, 5);
            Check.is("no OWNER", 0, x.news(7));
            x.pass(1);
            x.join(0, 5);
            Check.is("an OWNER", 1, x.news(7));
        });
        Edge.term(words, "the earliest of those subscribed counts", x -> {
            POSTED.accept(x);
            x.join(0, 5);
            x.subscribe(7, true, 5);
            x.pass(1);
            x.subscribe(7, true, 0);
            x.chapter(0);
            Check.is("digest(7)", 2, x.digest(7));
        });
        Edge.term(words, "the SAME as an OWNER is none", x -> {
            POSTED.accept(x);
            x.same(0, 5);
            x.subscribe(7, true, 5);
            Check.is("news(7)", 0, x.news(7));
        });
    }

    private static void newsInCollections() {
        String words = "or an OWNER of it, if the OWNERS are TOLD to them";
        for (int day : new int[] {1, 2, 3}) {
            Edge.term(words, "a collection that names on 2, asked on " + day, x -> {
                POSTED.accept(x);
                x.collection(0, 2);
                x.collect(0, 0);
                x.subscribe(7, true, 0);
                x.subscribe(8, false, 0);
                x.pass(day);
                Check.is("by the OWNER", day >= 2 ? 1 : 0, x.news(7));
                Check.is("by the WORK", 1, x.news(8));
                Check.is("digest by the OWNER", day >= 2 ? 1 : 0, x.digest(7));
            });
        }
        Edge.term(words, "not TOLD, the WORK was subscribed later than the OWNER", x -> {
            POSTED.accept(x);
            x.collection(0, 5);
            x.collect(0, 0);
            x.subscribe(7, true, 0);
            x.pass(1);
            x.subscribe(7, false, 0);
            x.chapter(0);
            Check.is("the later one", 1, x.digest(7));
            x.pass(4);
            Check.is("the earlier one, once they are TOLD", 1, x.digest(7));
        });
    }

    private static void digest() {
        Edge.noSuch(40, "if there is no such PERSON", "the PERSON", 12, POSTED, (x, person) -> x.digest(person));
        String returns = "Returns how many chapters it has.";
        Edge.of(40, returns, "none", x -> Check.is("digest(0)", 0, x.digest(0)));
        Edge.of(40, returns, "160, the most", x -> {
            x.subscribe(11, true, 0);
            for (int work = 0; work < 20; work++) {
                x.work(0, 0);
                for (int chapter = 0; chapter < 8; chapter++) {
                    x.chapter(work);
                }
                x.post(work);
            }
            Check.is("digest(11)", 160, x.digest(11));
            Check.is("digest(11) again", 0, x.digest(11));
        });
        Edge.of(40, "Makes a digest of all news of a PERSON.", "each PERSON has their own", x -> {
            POSTED.accept(x);
            x.subscribe(7, false, 0);
            x.subscribe(8, false, 0);
            x.digest(7);
            Check.is("news(8)", 1, x.news(8));
            Check.is("digest(8)", 1, x.digest(8));
        });
        String soFar = "not in a digest of theirs so far";
        Edge.term(soFar, "none of the chapters", x -> {
            POSTED.accept(x);
            x.subscribe(7, false, 0);
            x.digest(7);
            Check.is("news(7)", 0, x.news(7));
        });
        Edge.term(soFar, "the eighth one alone", x -> {
            x.work(0, 0);
            for (int chapter = 0; chapter < 7; chapter++) {
                x.chapter(0);
            }
            x.post(0);
            x.subscribe(7, false, 0);
            Check.is("digest of seven", 7, x.digest(7));
            x.chapter(0);
            Check.is("news(7)", 1, x.news(7));
            Check.is("digest of the eighth", 1, x.digest(7));
        });
        Edge.term(soFar, "none comes back by a digest of others, or of none", x -> {
            POSTED.accept(x);
            x.subscribe(7, false, 0);
            x.digest(7);
            x.chapter(0);
            Check.is("digest of the second one", 1, x.digest(7));
            Check.is("digest of none", 0, x.digest(7));
            Check.is("digest of none again", 0, x.digest(7));
            Check.is("news(7)", 0, x.news(7));
        });
        Edge.term(soFar, "of two WORKS by turns", x -> {
            POSTED.accept(x);
            POSTED.accept(x);
            x.subscribe(7, true, 0);
            x.digest(7);
            for (int turn = 0; turn < 14; turn++) {
                x.chapter(turn % 2);
                Check.is("digest " + turn, 1, x.digest(7));
            }
        });
        Edge.term(soFar, "one by the WORK does not come back by an OWNER", x -> {
            POSTED.accept(x);
            x.subscribe(7, false, 0);
            x.digest(7);
            x.subscribe(7, true, 0);
            Check.is("digest(7)", 0, x.digest(7));
        });
        Edge.term("A digest has all news of that moment.", "what comes later is in the next one", x -> {
            POSTED.accept(x);
            x.subscribe(7, true, 0);
            Check.is("digest(7)", 1, x.digest(7));
            x.chapter(0);
            POSTED.accept(x);
            Check.is("news(7)", 3, x.news(7));
            Check.is("digest(7) of two WORKS", 2, x.digest(7));
        });
        Edge.term("A digest has all news of that moment.", "what is hidden at that moment is in a later one", x -> {
            POSTED.accept(x);
            x.collection(1, 1);
            x.collect(0, 0);
            POSTED.accept(x);
            x.subscribe(7, true, 0);
            Check.is("digest(7) on DAY 0", 1, x.digest(7));
            x.pass(1);
            Check.is("digest(7) on DAY 1", 1, x.digest(7));
        });
    }
}
