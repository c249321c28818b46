/** Promises 15 to 23: the graph of TAGS, what WORKS are FILED under, and waves. */
public final class TagsTest {
    public static void main(String[] args) {
        tag();
        make();
        mergeRefusals();
        mergeFreeAndAlias();
        mergeFirstAndLast();
        mergeMain();
        parent();
        parentOnlyOfMain();
        ofTag();
        put();
        wave();
        waiting();
        under();
        Check.end();
    }

    private static void tag() {
        Tagwranglery x = new Tagwranglery();
        for (int i = 0; i < 30; i++) {
            Check.is("15 tag " + i, i, x.tag());
            Check.is("15 FREE", 0, x.ofTag(i, 0));
        }
        Check.noState("15 there are 30", x::tag);
        Check.noIndex("15 none came by the throw", () -> x.ofTag(30, 0));
    }

    private static void make() {
        Tagwranglery x = new Tagwranglery();
        Check.tags(x, 3);
        Check.noIndex("16 make(-1)", () -> x.make(-1));
        Check.noIndex("16 make(3)", () -> x.make(3));
        Check.is("16 was FREE", 0, x.make(0));
        Check.is("16 is MAIN", 1, x.ofTag(0, 0));
        Check.noState("16 it is MAIN", () -> x.make(0));
        x.merge(1, 0);
        Check.is("16 was ALIAS", 2, x.make(1));
        Check.is("16 means itself", 1, x.ofTag(1, 1));
        Check.is("16 has no PARENTS", 0, x.ofTag(1, 2));
        x.make(2);
        x.parent(0, 2, true);
        x.parent(1, 0, true);
        Check.mainTags(x, 1);
        x.merge(1, 3);
        Check.is("16 was an ALIAS that had PARENTS as MAIN", 2, x.make(1));
        Check.is("16 they do not come back", 0, x.ofTag(1, 2));
        x.work(0, 0);
        x.put(0, 0, true);
        x.tag();
        x.make(4);
        Check.is("16 WORKS with a TAG WAIT", 1, x.waiting());
    }

    private static void mergeRefusals() {
        Tagwranglery x = new Tagwranglery();
        Check.tags(x, 4);
        Check.noIndex("17 merge(-1, 0)", () -> x.merge(-1, 0));
        Check.noIndex("17 merge(4, 0)", () -> x.merge(4, 0));
        Check.noIndex("17 merge(0, -1)", () -> x.merge(0, -1));
        Check.noIndex("17 merge(0, 4)", () -> x.merge(0, 4));
        Check.noIndex("17 merge(4, 4): the index comes first", () -> x.merge(4, 4));
        Check.noArgument("17 merge(0, 0): ahead of the state", () -> x.merge(0, 0));
        Check.noState("17 the other one is FREE", () -> x.merge(0, 1));
        x.make(0);
        x.make(1);
        x.make(2);
        x.merge(3, 0);
        Check.noState("17 the other one is an ALIAS", () -> x.merge(1, 3));
        x.parent(0, 1, true);
        x.parent(1, 2, true);
        Check.noState("17 the other one is a PARENT", () -> x.merge(0, 1));
        Check.noState("17 the other one is ABOVE", () -> x.merge(0, 2));
        Check.noState("17 the first one is ABOVE", () -> x.merge(2, 0));
        Check.is("17 nothing changed", 1, x.ofTag(0, 0));
        Check.is("17 an ALIAS of one below may go up", 2, x.merge(3, 2));
    }

    private static void mergeFreeAndAlias() {
        Tagwranglery x = new Tagwranglery();
        Check.mainTags(x, 2);
        Check.tags(x, 2);
        x.work(0, 0);
        x.work(0, 0);
        x.put(1, 2, true);
        Check.is("17 was FREE", 0, x.merge(2, 0));
        Check.is("17 is an ALIAS", 2, x.ofTag(2, 0));
        Check.is("17 means the other one", 0, x.ofTag(2, 1));
        Check.is("17 the WORK with a TAG WAITS", 2, x.waiting());
        x.wave(20);
        Check.is("17 was its ALIAS already", 2, x.merge(2, 0));
        Check.is("17 that changes something, too", 2, x.waiting());
        x.merge(3, 0);
        Check.is("17 to another one", 2, x.merge(2, 1));
        Check.is("17 means that one", 1, x.ofTag(2, 1));
        Check.is("17 the other ALIAS stays", 0, x.ofTag(3, 1));
    }

    /** TAG 0 and the last one go along like all others. */
    private static void mergeFirstAndLast() {
        Tagwranglery x = new Tagwranglery();
        Check.mainTags(x, 30);
        x.merge(0, 28);
        x.parent(29, 28, true);
        x.parent(1, 28, true);
        x.merge(28, 2);
        Check.is("17 ALIAS 0 goes along", 2, x.ofTag(0, 1));
        Check.is("17 PARENTS of 29", Check.set(2), x.ofTag(29, 2));
        Check.is("17 PARENTS of 1", Check.set(2), x.ofTag(1, 2));
        x.make(0);
        x.parent(0, 2, true);
        x.merge(2, 3);
        Check.is("17 PARENTS of 0", Check.set(3), x.ofTag(0, 2));
    }

    private static void mergeMain() {
        Tagwranglery x = new Tagwranglery();
        Check.mainTags(x, 7);
        Check.tags(x, 1);
        x.merge(7, 0);
        x.parent(1, 0, true);
        x.parent(2, 1, true);
        x.parent(0, 3, true);
        x.parent(4, 5, true);
        x.parent(6, 0, true);
        x.parent(6, 4, true);
        Check.is("17 ABOVE before", Check.set(0, 1, 3), x.ofTag(2, 2));
        Check.is("17 was MAIN", 1, x.merge(0, 4));
        Check.is("17 its ALIASES go along", 4, x.ofTag(7, 1));
        Check.is("17 it is an ALIAS", 4, x.ofTag(0, 1));
        Check.is("17 the other one is the PARENT in its place", Check.set(4, 5), x.ofTag(1, 2));
        Check.is("17 further down, too", Check.set(1, 4, 5), x.ofTag(2, 2));
        Check.is("17 its own PARENTS are gone", Check.set(5), x.ofTag(4, 2));
        Check.is("17 ABOVE an ALIAS is none", 0, x.ofTag(0, 2));
        Check.is("17 who had both has one", Check.set(4, 5), x.ofTag(6, 2));
        Check.is("17 the PARENT in its place can be told off", true, x.parent(1, 4, false));
        Check.is("17 then it has none", 0, x.ofTag(1, 2));
        Check.is("17 once it is enough", true, x.parent(6, 4, false));
        Check.is("17 it has none then", 0, x.ofTag(6, 2));
        x.make(0);
        Check.is("17 MAIN again, it is no PARENT", Check.set(1), x.ofTag(2, 2));
        Check.is("17 its ALIASES of old stay away", 4, x.ofTag(7, 1));
    }

    private static void parent() {
        Tagwranglery x = new Tagwranglery();
        Check.mainTags(x, 4);
        Check.noIndex("18 parent(-1, 0)", () -> x.parent(-1, 0, true));
        Check.noIndex("18 parent(4, 0)", () -> x.parent(4, 0, true));
        Check.noIndex("18 parent(0, -1)", () -> x.parent(0, -1, false));
        Check.noIndex("18 parent(0, 4)", () -> x.parent(0, 4, false));
        Check.noIndex("18 parent(4, 4)", () -> x.parent(4, 4, false));
        Check.noArgument("18 parent(0, 0)", () -> x.parent(0, 0, true));
        Check.noArgument("18 parent(0, 0, false)", () -> x.parent(0, 0, false));
        x.work(0, 0);
        x.put(0, 0, true);
        Check.is("18 off, was off", false, x.parent(0, 1, false));
        Check.is("18 nothing changed", 0, x.waiting());
        Check.is("18 on, was off", false, x.parent(0, 1, true));
        Check.is("18 the WORK WAITS", 1, x.waiting());
        x.wave(1);
        Check.is("18 on, was on", true, x.parent(0, 1, true));
        Check.is("18 nothing changed then", 0, x.waiting());
        x.parent(1, 2, true);
        Check.noState("18 it is the PARENT of the other", () -> x.parent(1, 0, true));
        Check.noState("18 it is ABOVE the other", () -> x.parent(2, 0, true));
        Check.is("18 told off where it is ABOVE", false, x.parent(2, 0, false));
        Check.is("18 a second way up", false, x.parent(0, 2, true));
        Check.is("18 ABOVE", Check.set(1, 2), x.ofTag(0, 2));
        x.wave(1);
        Check.is("18 off, was on", true, x.parent(0, 1, false));
        Check.is("18 the WORK WAITS again", 1, x.waiting());
        Check.is("18 the other way stays", Check.set(2), x.ofTag(0, 2));
        Check.is("18 no circle any more", false, x.parent(1, 0, true));
        Check.is("18 ABOVE by that", Check.set(0, 2), x.ofTag(1, 2));
    }

    private static void parentOnlyOfMain() {
        Tagwranglery x = new Tagwranglery();
        Check.mainTags(x, 2);
        Check.tags(x, 2);
        x.merge(3, 0);
        Check.noState("18 a FREE one has none", () -> x.parent(2, 0, true));
        Check.noState("18 a FREE one is none", () -> x.parent(0, 2, true));
        Check.noState("18 an ALIAS has none", () -> x.parent(3, 1, true));
        Check.noState("18 an ALIAS is none", () -> x.parent(1, 3, true));
        Check.noState("18 a FREE one, told off", () -> x.parent(2, 0, false));
        Check.noState("18 an ALIAS, told off", () -> x.parent(1, 3, false));
    }

    private static void ofTag() {
        Tagwranglery x = new Tagwranglery();
        Check.tags(x, 5);
        Check.noIndex("19 ofTag(-1, 0)", () -> x.ofTag(-1, 0));
        Check.noIndex("19 ofTag(5, 0)", () -> x.ofTag(5, 0));
        Check.noIndex("19 ofTag(5, 5): the index comes first", () -> x.ofTag(5, 5));
        Check.noArgument("19 ofTag(0, -1)", () -> x.ofTag(0, -1));
        Check.noArgument("19 ofTag(0, 5)", () -> x.ofTag(0, 5));
        Check.is("19 a FREE one means nothing", -1, x.ofTag(0, 1));
        Check.is("19 nothing is ABOVE it", 0, x.ofTag(0, 2));
        x.make(1);
        x.make(2);
        x.parent(1, 2, true);
        x.merge(3, 1);
        Check.is("19 an ALIAS", 2, x.ofTag(3, 0));
        Check.is("19 ABOVE an ALIAS is 0", 0, x.ofTag(3, 2));
        Check.is("19 ABOVE a MAIN one", Check.set(2), x.ofTag(1, 2));
        x.work(0, 0);
        x.work(1, 0);
        x.work(2, 0);
        x.put(0, 3, true);
        x.put(1, 1, true);
        x.put(2, 0, true);
        x.put(1, 3, true);
        Check.is("19 how many have the ALIAS", 2, x.ofTag(3, 3));
        Check.is("19 how many have the MAIN one", 1, x.ofTag(1, 3));
        Check.is("19 none has what is ABOVE", 0, x.ofTag(2, 3));
        Check.is("19 FILED under the MAIN one", 2, x.ofTag(1, 4));
        Check.is("19 FILED under what is ABOVE", 2, x.ofTag(2, 4));
        Check.is("19 none is FILED under an ALIAS", 0, x.ofTag(3, 4));
        Check.is("19 none under a FREE one", 0, x.ofTag(0, 4));
        x.make(4);
        x.parent(1, 2, false);
        x.merge(1, 4);
        Check.is("19 FILED as before, as they WAIT", 2, x.ofTag(1, 4));
        Check.is("19 none so far under the new one", 0, x.ofTag(4, 4));
        x.wave(1);
        Check.is("19 one was filed", 1, x.ofTag(4, 4));
        Check.is("19 and one was not", 1, x.ofTag(1, 4));
    }

    private static void put() {
        Tagwranglery x = new Tagwranglery();
        x.work(0, 0);
        Check.mainTags(x, 2);
        Check.noIndex("20 put(-1, 0)", () -> x.put(-1, 0, true));
        Check.noIndex("20 put(1, 0)", () -> x.put(1, 0, true));
        Check.noIndex("20 put(0, -1)", () -> x.put(0, -1, true));
        Check.noIndex("20 put(0, 2)", () -> x.put(0, 2, true));
        Check.is("20 off, had it not", false, x.put(0, 0, false));
        Check.is("20 on, had it not", false, x.put(0, 0, true));
        Check.is("20 filed at once", Check.set(0), x.under(0, false));
        Check.is("20 on, had it", true, x.put(0, 0, true));
        x.parent(0, 1, true);
        Check.is("20 it WAITS", 1, x.waiting());
        Check.is("20 on again", true, x.put(0, 0, true));
        Check.is("20 that files it, too", Check.set(0, 1), x.under(0, false));
        Check.is("20 it WAITS no more", 0, x.waiting());
        x.parent(0, 1, false);
        Check.is("20 off, had it not again", false, x.put(0, 1, false));
        Check.is("20 that files it as well", Check.set(0), x.under(0, false));
        Check.is("20 it WAITS no more then", 0, x.waiting());
        x.parent(0, 1, true);
        Check.is("20 off, had it", true, x.put(0, 0, false));
        Check.is("20 FILED under nothing", 0, x.under(0, false));
        Check.is("20 without TAGS it WAITS no more", 0, x.waiting());
        x.parent(0, 1, false);
        Check.is("20 and does not begin to", 0, x.waiting());
    }

    private static void wave() {
        Tagwranglery x = new Tagwranglery();
        Check.mainTags(x, 3);
        Check.noArgument("21 wave(0)", () -> x.wave(0));
        Check.noArgument("21 wave(-1)", () -> x.wave(-1));
        Check.noArgument("21 wave(21)", () -> x.wave(21));
        Check.is("21 none WAITS", 0, x.wave(20));
        for (int i = 0; i < 20; i++) {
            x.work(0, 0);
            if (i % 4 != 1) {
                x.put(i, 0, true);
            }
        }
        x.parent(0, 1, true);
        Check.is("21 wave(1)", 1, x.wave(1));
        Check.is("21 the lowest one", Check.set(0, 1), x.under(0, false));
        Check.is("21 not the next one", Check.set(0), x.under(2, false));
        Check.is("21 wave(2) goes past one that does not WAIT", 2, x.wave(2));
        Check.is("21 filed", Check.set(0, 1), x.under(3, false));
        Check.is("21 not filed", Check.set(0), x.under(4, false));
        x.parent(1, 2, true);
        Check.is("21 from the lowest one again", 1, x.wave(1));
        Check.is("21 with what is ABOVE now", Check.set(0, 1, 2), x.under(0, false));
        Check.is("21 the rest", 14, x.wave(20));
        Check.is("21 nothing is left", 0, x.wave(20));
        Check.is("21 the last one", Check.set(0, 1, 2), x.under(19, false));
    }

    private static void waiting() {
        Tagwranglery x = new Tagwranglery();
        Check.tags(x, 3);
        for (int i = 0; i < 20; i++) {
            x.work(0, 0);
        }
        x.put(0, 2, true);
        x.put(5, 2, true);
        x.put(19, 2, true);
        x.put(7, 2, true);
        x.put(7, 2, false);
        Check.is("22 none at first", 0, x.waiting());
        x.make(0);
        Check.is("22 all with a TAG, whichever", Check.set(0, 5, 19), x.waiting());
        x.put(5, 0, true);
        Check.is("22 not who was filed", Check.set(0, 19), x.waiting());
        x.wave(1);
        Check.is("22 nor who was in a wave", Check.set(19), x.waiting());
        x.make(1);
        Check.is("22 all again", Check.set(0, 5, 19), x.waiting());
        x.wave(20);
        Check.noState("22 what is refused changes nothing", () -> x.make(1));
        Check.noState("22 a merge neither", () -> x.merge(0, 2));
        Check.is("22 so none WAITS", 0, x.waiting());
        x.tag();
        Check.is("22 by tag() none", 0, x.waiting());
    }

    private static void under() {
        Tagwranglery x = new Tagwranglery();
        x.work(0, 0);
        Check.noIndex("23 under(-1)", () -> x.under(-1, false));
        Check.noIndex("23 under(1)", () -> x.under(1, true));
        Check.tags(x, 30);
        Check.is("23 at first", 0, x.under(0, false));
        x.put(0, 29, true);
        x.put(0, 3, true);
        Check.is("23 a FREE one is nothing", 0, x.under(0, true));
        x.make(29);
        Check.is("23 FILED before", 0, x.under(0, false));
        Check.is("23 BELONGS now", Check.set(29), x.under(0, true));
        x.make(10);
        x.make(0);
        x.merge(3, 10);
        x.parent(10, 0, true);
        x.parent(29, 0, true);
        Check.is("23 by an ALIAS, with what is ABOVE", Check.set(0, 10, 29), x.under(0, true));
        Check.is("23 FILED as before", 0, x.under(0, false));
        x.wave(1);
        Check.is("23 FILED by the wave", Check.set(0, 10, 29), x.under(0, false));
        x.parent(10, 0, false);
        x.parent(29, 0, false);
        Check.is("23 not any more", Check.set(10, 29), x.under(0, true));
        Check.is("23 FILED as then", Check.set(0, 10, 29), x.under(0, false));
    }
}
