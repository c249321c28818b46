/** Promises 32 to 37: comments and kudos. */
public final class CommentsTest {
    public static void main(String[] args) {
        screen();
        commentRefusals();
        commentMost();
        commentFrozen();
        commentBlocked();
        commentNotRead();
        change();
        reads();
        kudos();
        kudosOfTheSame();
        Check.end();
    }

    private static void screen() {
        Tagwranglery x = new Tagwranglery();
        Check.posted(x, 0, 0);
        Check.noIndex("32 screen(-1)", () -> x.screen(-1, true));
        Check.noIndex("32 screen(1)", () -> x.screen(1, true));
        Check.is("32 not at first", false, x.screen(0, false));
        x.comment(0, 5, -1);
        Check.is("32 on", false, x.screen(0, true));
        Check.is("32 on again", true, x.screen(0, true));
        Check.is("32 those of before are shown", 1, x.reads(0, 6));
        x.comment(0, 5, -1);
        x.comment(0, 0, -1);
        Check.is("32 an OWNER's is shown", 2, x.reads(0, 6));
        Check.is("32 off", true, x.screen(0, false));
        Check.is("32 SCREENED as it came", 2, x.reads(0, 6));
        x.comment(0, 5, -1);
        Check.is("32 shown as it came", 3, x.reads(0, 6));
        x.screen(0, true);
        x.same(0, 9);
        x.comment(0, 9, -1);
        Check.is("32 the SAME as an OWNER is none", 3, x.reads(0, 6));
    }

    private static void commentRefusals() {
        Tagwranglery x = new Tagwranglery();
        Check.posted(x, 0, 0);
        Check.posted(x, 1, 0);
        x.work(2, 0);
        Check.noIndex("33 WORK -1", () -> x.comment(-1, 0, -1));
        Check.noIndex("33 WORK 3", () -> x.comment(3, 0, -1));
        Check.noIndex("33 FACE -1", () -> x.comment(0, -1, -1));
        Check.noIndex("33 FACE 32", () -> x.comment(0, 32, -1));
        Check.noIndex("33 beneath -2", () -> x.comment(0, 0, -2));
        Check.noIndex("33 beneath 0", () -> x.comment(0, 0, 0));
        Check.noIndex("33 the index comes ahead of the state", () -> x.comment(2, 0, 0));
        Check.is("33 first", 0, x.comment(0, 31, -1));
        Check.noIndex("33 beneath 1", () -> x.comment(0, 0, 1));
        Check.noArgument("33 on another WORK", () -> x.comment(1, 0, 0));
        Check.noArgument("33 ahead of the state: not SEEN", () -> x.comment(2, 0, 0));
        Check.noState("33 not SEEN", () -> x.comment(2, 0, -1));
        Check.is("33 an OWNER on a draft", 1, x.comment(2, 2, -1));
        Check.is("33 beneath", 2, x.comment(0, 0, 0));
        Check.is("33 beneath that", 3, x.comment(0, 31, 2));
        x.lock(0, true);
        Check.noState("33 not SEEN as it is LOCKED", () -> x.comment(0, 31, -1));
    }

    private static void commentMost() {
        Tagwranglery x = new Tagwranglery();
        Check.posted(x, 0, 0);
        Check.posted(x, 0, 0);
        for (int i = 0; i < 60; i++) {
            Check.is("33 comment " + i, i, x.comment(0, 1, i - 1));
        }
        Check.noState("33 there are 60", () -> x.comment(0, 1, -1));
        Check.noArgument("33 the argument comes first", () -> x.comment(1, 1, 0));
        Check.noIndex("33 none came by the throw", () -> x.change(60, 0));
    }

    private static void commentFrozen() {
        Tagwranglery x = new Tagwranglery();
        Check.posted(x, 0, 0);
        x.comment(0, 1, -1);
        x.comment(0, 2, 0);
        x.comment(0, 3, 1);
        x.comment(0, 4, -1);
        x.comment(0, 5, 0);
        x.change(1, 0);
        Check.noState("33 beneath a FROZEN one", () -> x.comment(0, 6, 1));
        Check.noState("33 beneath what is beneath it", () -> x.comment(0, 6, 2));
        Check.noState("33 its writer neither", () -> x.comment(0, 2, 1));
        Check.noState("33 an OWNER neither", () -> x.comment(0, 0, 2));
        Check.is("33 beneath what it is beneath", 5, x.comment(0, 6, 0));
        Check.is("33 beside it", 6, x.comment(0, 6, 4));
        Check.is("33 on its own", 7, x.comment(0, 6, -1));
        x.change(1, 3);
        Check.noState("33 REMOVED, it is FROZEN still", () -> x.comment(0, 6, 2));
        x.change(1, 1);
        Check.is("33 not FROZEN, REMOVED: what is beneath is read", 8, x.comment(0, 6, 2));
        x.change(0, 0);
        Check.noState("33 the whole thread", () -> x.comment(0, 6, 8));
    }

    private static void commentBlocked() {
        Tagwranglery x = new Tagwranglery();
        Check.posted(x, 0, 0);
        x.join(0, 1);
        x.comment(0, 2, -1);
        x.comment(0, 3, 0);
        x.comment(0, 20, -1);
        x.block(1, 4, true);
        Check.noState("33 an OWNER BLOCKS the FACE", () -> x.comment(0, 4, -1));
        Check.noState("33 beneath a comment, too", () -> x.comment(0, 4, 0));
        x.leave(0, 1);
        Check.is("33 no OWNER any more", 3, x.comment(0, 4, -1));
        x.block(2, 5, true);
        Check.noState("33 who wrote that one BLOCKS the FACE", () -> x.comment(0, 5, 0));
        Check.is("33 who wrote what that one is beneath may", 4, x.comment(0, 5, 1));
        Check.is("33 on its own", 5, x.comment(0, 5, -1));
        Check.is("33 the other way it is no BLOCK", 6, x.comment(0, 2, 5));
        x.same(5, 6);
        Check.is("33 the SAME as one who is BLOCKED is not", 7, x.comment(0, 6, 0));
        Check.is("33 beneath a visitor's", 8, x.comment(0, 5, 2));
        x.block(2, 5, false);
        Check.is("33 not BLOCKED any more", 9, x.comment(0, 5, 0));
        x.join(0, 7);
        x.block(7, 0, true);
        Check.noState("33 an OWNER BLOCKS another one", () -> x.comment(0, 0, -1));
        x.leave(0, 7);
        x.block(0, 11, true);
        Check.noState("33 PERSON 0 is an OWNER and BLOCKS", () -> x.comment(0, 11, -1));
        Check.posted(x, 11, 0);
        x.comment(1, 0, -1);
        Check.noState("33 PERSON 0 wrote that one and BLOCKS", () -> x.comment(1, 11, 10));
        x.comment(1, 11, -1);
        x.block(11, 1, true);
        Check.noState("33 PERSON 11 is an OWNER and BLOCKS", () -> x.comment(1, 1, -1));
        Check.is("33 PERSON 12 is none: a visitor's comment", 12, x.comment(0, 12, -1));
        Check.is("33 beneath a visitor's that has a PERSON's bit", 13, x.comment(0, 3, 12));
    }

    private static void commentNotRead() {
        Tagwranglery x = new Tagwranglery();
        Check.posted(x, 0, 0);
        x.screen(0, true);
        x.comment(0, 20, -1);
        Check.noState("33 SCREENED", () -> x.comment(0, 21, 0));
        Check.is("33 its writer reads it", 1, x.comment(0, 20, 0));
        Check.is("33 the OWNER reads it", 2, x.comment(0, 0, 0));
        x.change(0, 2);
        Check.is("33 shown", 3, x.comment(0, 21, 0));
        x.change(0, 3);
        Check.noState("33 REMOVED", () -> x.comment(0, 21, 0));
        Check.noState("33 REMOVED, to its writer", () -> x.comment(0, 20, 0));
        Check.noState("33 REMOVED, to the OWNER", () -> x.comment(0, 0, 0));
        Check.is("33 beneath what is beneath it", 4, x.comment(0, 21, 2));
    }

    private static void change() {
        Tagwranglery x = new Tagwranglery();
        Check.posted(x, 0, 0);
        x.comment(0, 1, -1);
        x.screen(0, true);
        x.comment(0, 1, -1);
        Check.noIndex("34 change(-1, 0)", () -> x.change(-1, 0));
        Check.noIndex("34 change(2, 4): the index comes first", () -> x.change(2, 4));
        Check.noArgument("34 change(0, -1)", () -> x.change(0, -1));
        Check.noArgument("34 change(0, 4)", () -> x.change(0, 4));
        Check.is("34 it is not FROZEN", false, x.change(0, 1));
        Check.is("34 FROZEN", true, x.change(0, 0));
        Check.is("34 FROZEN again", false, x.change(0, 0));
        Check.is("34 not FROZEN", true, x.change(0, 1));
        Check.is("34 it is shown", false, x.change(0, 2));
        Check.is("34 SCREENED, shown", true, x.change(1, 2));
        Check.is("34 shown again", false, x.change(1, 2));
        Check.is("34 the other one is read", 2, x.reads(0, 20));
        Check.is("34 REMOVED", true, x.change(1, 3));
        Check.is("34 REMOVED again", false, x.change(1, 3));
        Check.is("34 one is left", 1, x.reads(0, 20));
        Check.is("34 REMOVED, FROZEN", true, x.change(1, 0));
        Check.is("34 REMOVED, shown", false, x.change(1, 2));
        Check.is("34 for good", 1, x.reads(0, 20));
    }

    private static void reads() {
        Tagwranglery x = new Tagwranglery();
        Check.posted(x, 0, 0);
        Check.posted(x, 1, 0);
        Check.noIndex("35 reads(-1, 0)", () -> x.reads(-1, 0));
        Check.noIndex("35 reads(2, 0)", () -> x.reads(2, 0));
        Check.noIndex("35 reads(0, -1)", () -> x.reads(0, -1));
        Check.noIndex("35 reads(0, 32)", () -> x.reads(0, 32));
        Check.is("35 none", 0, x.reads(0, 5));
        x.comment(0, 5, -1);
        x.comment(1, 5, -1);
        x.screen(0, true);
        x.comment(0, 6, 0);
        x.comment(0, 7, 0);
        x.join(0, 8);
        x.same(6, 9);
        Check.is("35 a FACE", 1, x.reads(0, 31));
        Check.is("35 who wrote one", 2, x.reads(0, 6));
        Check.is("35 who is the SAME did not", 1, x.reads(0, 9));
        Check.is("35 an OWNER", 3, x.reads(0, 8));
        Check.is("35 of the other WORK", 1, x.reads(1, 8));
        x.change(0, 3);
        Check.is("35 REMOVED, to its writer", 0, x.reads(0, 5));
        Check.is("35 REMOVED, to an OWNER", 2, x.reads(0, 0));
        x.change(0, 0);
        x.change(2, 2);
        x.change(2, 0);
        Check.is("35 FROZEN ones are read", 1, x.reads(0, 31));
        x.lock(0, true);
        Check.is("35 not SEEN", 0, x.reads(0, 31));
        Check.is("35 LOCKED, a PERSON", 1, x.reads(0, 9));
        x.block(0, 9, true);
        Check.is("35 a BLOCK hides nothing", 1, x.reads(0, 9));
        x.leave(0, 8);
        Check.is("35 no OWNER any more", 1, x.reads(0, 8));
    }

    private static void kudos() {
        Tagwranglery x = new Tagwranglery();
        Check.posted(x, 0, 0);
        x.work(1, 0);
        Check.noIndex("36 kudos(-1, 0)", () -> x.kudos(-1, 0));
        Check.noIndex("36 kudos(2, 0)", () -> x.kudos(2, 0));
        Check.noIndex("36 kudos(0, -1)", () -> x.kudos(0, -1));
        Check.noIndex("36 kudos(0, 32)", () -> x.kudos(0, 32));
        Check.noIndex("37 liked(-1)", () -> x.liked(-1));
        Check.noIndex("37 liked(2)", () -> x.liked(2));
        Check.is("37 none", 0, x.liked(0));
        Check.noState("36 not SEEN", () -> x.kudos(1, 0));
        Check.noState("36 an OWNER", () -> x.kudos(0, 0));
        Check.noState("36 an OWNER of a draft", () -> x.kudos(1, 1));
        Check.is("36 the first", 1, x.kudos(0, 31));
        Check.noState("36 once", () -> x.kudos(0, 31));
        Check.is("36 another one", 2, x.kudos(0, 11));
        x.lock(0, true);
        Check.noState("36 not SEEN as it is LOCKED", () -> x.kudos(0, 30));
        Check.is("37 they stay", 2, x.liked(0));
        x.leave(0, 0);
        Check.is("36 who was an OWNER", 3, x.kudos(0, 0));
        Check.is("37 counted", 3, x.liked(0));
    }

    private static void kudosOfTheSame() {
        Tagwranglery x = new Tagwranglery();
        Check.posted(x, 0, 0);
        x.same(0, 20);
        Check.is("36 the SAME as the OWNER is none", 1, x.kudos(0, 20));
        x.same(5, 25);
        Check.is("36 one of the SAME", 2, x.kudos(0, 25));
        Check.noState("36 the other of the SAME", () -> x.kudos(0, 5));
        Check.is("36 others", 3, x.kudos(0, 6));
        Check.is("36 and others", 4, x.kudos(0, 31));
        x.same(6, 31);
        Check.is("37 the SAME once", 3, x.liked(0));
        x.same(25, 31);
        Check.is("37 all of them once", 2, x.liked(0));
        x.same(0, 31);
        Check.is("37 one is left", 1, x.liked(0));
        Check.is("36 counted so, too", 2, x.kudos(0, 1));
        Check.is("37 counted so", 2, x.liked(0));
        Check.posted(x, 3, 0);
        Check.is("36 for each WORK on its own", 1, x.kudos(1, 5));
        Check.is("37 for each WORK on its own", 1, x.liked(1));
    }
}
