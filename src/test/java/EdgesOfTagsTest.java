import java.util.function.Consumer;

/** The boundary cases of promises 15 to 23 and of the terms of TAGS. */
public final class EdgesOfTagsTest {
    private static final Consumer<Tagwranglery> THREE_MAIN = x -> {
        x.work(0, 0);
        Check.mainTags(x, 3);
    };

    public static void main(String[] args) {
        tag();
        make();
        mergeRefusals();
        mergeRefusedAbove();
        merge();
        mergeTakesAlong();
        becomesMain();
        parentRefusals();
        parentCircles();
        parent();
        above();
        ofTag();
        ofTagCounts();
        put();
        filed();
        belongs();
        wave();
        waiting();
        changes();
        under();
        sets();
        Edge.end(15, 23, "TAGS");
    }

    private static void tag() {
        Edge.of(15, "Returns its number.", "from 0 to 29", x -> {
            for (int i = 0; i < 30; i++) {
                Check.is("tag " + i, i, x.tag());
            }
        });
        Edge.of(15, "if there are 30", "a 31st TAG", x -> {
            Check.tags(x, 30);
            Check.noState("tag()", x::tag);
            Check.noIndex("it has not come", () -> x.ofTag(30, 0));
        });
        Edge.of(15, "Makes a TAG, FREE.", "each of 30", x -> {
            Check.tags(x, 30);
            for (int i = 0; i < 30; i++) {
                Check.is("ofTag(" + i + ", 0)", 0, x.ofTag(i, 0));
            }
        });
        Edge.term("TAGS are numbered from 0, at most 30, each FREE, as at first, MAIN, or an ALIAS of a MAIN one.",
                "the last one can be each of it", x -> {
            Check.mainTags(x, 1);
            Check.tags(x, 29);
            Check.is("FREE", 0, x.ofTag(29, 0));
            x.make(29);
            Check.is("MAIN", 1, x.ofTag(29, 0));
            x.merge(29, 0);
            Check.is("ALIAS", 2, x.ofTag(29, 0));
        });
        Edge.term("Its MEANING is itself, if it is MAIN, the MAIN one, if it is an ALIAS, and nothing, if it is FREE.",
                "the first and the last TAG", x -> {
            Check.tags(x, 30);
            Check.is("FREE, 0", -1, x.ofTag(0, 1));
            Check.is("FREE, 29", -1, x.ofTag(29, 1));
            x.make(0);
            x.make(29);
            Check.is("MAIN, 0", 0, x.ofTag(0, 1));
            Check.is("MAIN, 29", 29, x.ofTag(29, 1));
            x.merge(0, 29);
            Check.is("ALIAS", 29, x.ofTag(0, 1));
        });
    }

    private static void make() {
        Edge.noSuch(16, "if there is no such TAG", "the TAG", 3, x -> Check.tags(x, 3), (x, tag) -> x.make(tag));
        Edge.noSuch(16, "if there is no such TAG", "the TAG, of 30,", 30, x -> Check.tags(x, 30), (x, tag) -> x.make(tag));
        Edge.of(16, "if it is MAIN", "twice", x -> {
            x.tag();
            x.make(0);
            Check.noState("make(0)", () -> x.make(0));
            Check.is("it is MAIN", 1, x.ofTag(0, 0));
        });
        Edge.of(16, "Returns what it was: FREE or ALIAS.", "FREE", x -> {
            x.tag();
            Check.is("make(0)", 0, x.make(0));
        });
        Edge.of(16, "Returns what it was: FREE or ALIAS.", "ALIAS", x -> {
            Check.mainTags(x, 1);
            x.tag();
            x.merge(1, 0);
            Check.is("make(1)", 2, x.make(1));
        });
        Edge.of(16, "Makes a TAG MAIN.", "no other one", x -> {
            Check.tags(x, 3);
            x.make(1);
            Check.is("ofTag(0, 0)", 0, x.ofTag(0, 0));
            Check.is("ofTag(1, 0)", 1, x.ofTag(1, 0));
            Check.is("ofTag(2, 0)", 0, x.ofTag(2, 0));
        });
    }

    private static void mergeRefusals() {
        String either = "if there is no such TAG, of either";
        Edge.noSuch(17, either, "the first one", 3, THREE_MAIN, (x, tag) -> x.merge(tag, 0));
        Edge.noSuch(17, either, "the second one", 3, THREE_MAIN, (x, main) -> x.merge(0, main));
        Edge.of(17, "if both are the same", "MAIN", x -> {
            Check.mainTags(x, 1);
            Check.noArgument("merge(0, 0)", () -> x.merge(0, 0));
            Check.is("it is MAIN", 1, x.ofTag(0, 0));
        });
        Edge.of(17, "if both are the same", "FREE", x -> {
            Check.tags(x, 30);
            Check.noArgument("merge(29, 29)", () -> x.merge(29, 29));
        });
        Edge.of(17, "if both are the same", "ALIAS", x -> {
            Check.mainTags(x, 2);
            x.merge(0, 1);
            Check.noArgument("merge(0, 0)", () -> x.merge(0, 0));
        });
        Edge.of(17, "if the other one is not MAIN", "FREE", x -> {
            Check.tags(x, 2);
            Check.noState("merge(0, 1)", () -> x.merge(0, 1));
            x.make(0);
            Check.noState("merge(0, 1), the first one MAIN", () -> x.merge(0, 1));
        });
        Edge.of(17, "if the other one is not MAIN", "ALIAS", x -> {
            Check.mainTags(x, 3);
            x.merge(1, 2);
            Check.noState("merge(0, 1)", () -> x.merge(0, 1));
            Check.noState("merge(2, 1), its own ALIAS", () -> x.merge(2, 1));
        });
    }

    private static void mergeRefusedAbove() {
        String above = "or one of both is ABOVE the other one";
        Edge.of(17, above, "the other one is a PARENT", x -> {
            chain(x, 2);
            Check.noState("merge(0, 1)", () -> x.merge(0, 1));
        });
        Edge.of(17, above, "the first one is a PARENT", x -> {
            chain(x, 2);
            Check.noState("merge(1, 0)", () -> x.merge(1, 0));
        });
        Edge.of(17, above, "the other one is farthest ABOVE", x -> {
            chain(x, 30);
            Check.noState("merge(0, 29)", () -> x.merge(0, 29));
        });
        Edge.of(17, above, "the first one is farthest ABOVE", x -> {
            chain(x, 30);
            Check.noState("merge(29, 0)", () -> x.merge(29, 0));
        });
        Edge.of(17, above, "no PARENT any more", x -> {
            chain(x, 2);
            x.parent(0, 1, false);
            Check.is("merge(0, 1)", 1, x.merge(0, 1));
        });
        Edge.of(17, above, "two with the same PARENT are beside each other", x -> {
            Check.mainTags(x, 3);
            x.parent(0, 2, true);
            x.parent(1, 2, true);
            Check.is("merge(0, 1)", 1, x.merge(0, 1));
        });
        Edge.of(17, above, "two PARENTS of the same TAG are beside each other", x -> {
            Check.mainTags(x, 3);
            x.parent(2, 0, true);
            x.parent(2, 1, true);
            Check.is("merge(0, 1)", 1, x.merge(0, 1));
            Check.is("one is left", Check.set(1), x.ofTag(2, 2));
        });
        Edge.of(17, above, "an ALIAS of one ABOVE is not ABOVE", x -> {
            chain(x, 2);
            x.tag();
            x.merge(2, 1);
            Check.is("merge(2, 0)", 2, x.merge(2, 0));
        });
    }

    /** MAIN TAGS, each with the next one as its PARENT. */
    private static void chain(Tagwranglery x, int count) {
        Check.mainTags(x, count);
        for (int i = 0; i + 1 < count; i++) {
            x.parent(i, i + 1, true);
        }
    }

    private static void merge() {
        String returns = "Returns what it was: FREE to ALIAS.";
        Edge.of(17, returns, "FREE", x -> {
            Check.mainTags(x, 1);
            x.tag();
            Check.is("merge(1, 0)", 0, x.merge(1, 0));
        });
        Edge.of(17, returns, "MAIN", x -> {
            Check.mainTags(x, 2);
            Check.is("merge(1, 0)", 1, x.merge(1, 0));
        });
        Edge.of(17, returns, "ALIAS", x -> {
            Check.mainTags(x, 3);
            x.merge(2, 1);
            Check.is("merge(2, 0)", 2, x.merge(2, 0));
        });
        String already = "this changes something, also if it is its ALIAS already";
        Edge.of(17, already, "the WORKS WAIT", x -> {
            THREE_MAIN.accept(x);
            x.put(0, 0, true);
            x.merge(2, 1);
            x.wave(20);
            Check.is("merge(2, 1) again", 2, x.merge(2, 1));
            Check.is("waiting()", 1, x.waiting());
        });
        Edge.of(17, already, "it is that still", x -> {
            Check.mainTags(x, 2);
            x.merge(0, 1);
            x.merge(0, 1);
            Check.is("ofTag(0, 0)", 2, x.ofTag(0, 0));
            Check.is("ofTag(0, 1)", 1, x.ofTag(0, 1));
        });
        Edge.term("and was MAIN, its ALIASES become ALIASES of that one, too", "an ALIAS has none that go along", x -> {
            Check.mainTags(x, 2);
            Check.tags(x, 2);
            x.merge(2, 0);
            x.merge(3, 0);
            x.merge(2, 1);
            Check.is("it goes alone", 1, x.ofTag(2, 1));
            Check.is("the other ALIAS stays", 0, x.ofTag(3, 1));
            Check.is("the MAIN one stays", 0, x.ofTag(0, 1));
        });
    }

    private static void mergeTakesAlong() {
        String aliases = "and was MAIN, its ALIASES become ALIASES of that one, too";
        Edge.term(aliases, "28 ALIASES", x -> {
            Check.mainTags(x, 2);
            Check.tags(x, 28);
            for (int tag = 2; tag < 30; tag++) {
                x.merge(tag, 0);
            }
            x.merge(0, 1);
            for (int tag = 0; tag < 30; tag++) {
                Check.is("ofTag(" + tag + ", 1)", 1, x.ofTag(tag, 1));
                Check.is("ofTag(" + tag + ", 0)", tag == 1 ? 1 : 2, x.ofTag(tag, 0));
            }
        });
        Edge.term(aliases, "those of the other one stay, those of a third one, too", x -> {
            Check.mainTags(x, 6);
            x.merge(3, 0);
            x.merge(4, 1);
            x.merge(5, 2);
            x.merge(0, 1);
            Check.is("of the first one", 1, x.ofTag(3, 1));
            Check.is("of the other one", 1, x.ofTag(4, 1));
            Check.is("of a third one", 2, x.ofTag(5, 1));
        });
        String parents = "each TAG that had it as a PARENT has that one as a PARENT in its place";
        Edge.term(parents, "the first and the last TAG", x -> {
            Check.mainTags(x, 30);
            x.parent(0, 14, true);
            x.parent(29, 14, true);
            x.merge(14, 15);
            Check.is("ofTag(0, 2)", Check.set(15), x.ofTag(0, 2));
            Check.is("ofTag(29, 2)", Check.set(15), x.ofTag(29, 2));
            Check.is("parent(0, 15, false)", true, x.parent(0, 15, false));
        });
        Edge.term(parents, "one that has it ABOVE, but not as a PARENT, gets none", x -> {
            chain(x, 3);
            Check.mainTags(x, 1);
            x.merge(2, 3);
            Check.is("parent(0, 3, false)", false, x.parent(0, 3, false));
            x.parent(1, 3, false);
            Check.is("ofTag(0, 2)", Check.set(1), x.ofTag(0, 2));
        });
        Edge.term(parents, "its other PARENTS stay, and no more come", x -> {
            Check.mainTags(x, 8);
            x.parent(0, 1, true);
            x.parent(0, 3, true);
            x.parent(1, 4, true);
            x.parent(2, 5, true);
            x.parent(3, 6, true);
            x.merge(1, 2);
            for (int parent = 2; parent < 8; parent++) {
                Check.is("parent(0, " + parent + ", false)", parent == 2 || parent == 3, x.parent(0, parent, false));
            }
            Check.is("none is left", 0, x.ofTag(0, 2));
        });
        Edge.term(parents, "one that had both has it once", x -> {
            Check.mainTags(x, 3);
            x.parent(0, 1, true);
            x.parent(0, 2, true);
            x.merge(1, 2);
            Check.is("ofTag(0, 2)", Check.set(2), x.ofTag(0, 2));
            Check.is("parent(0, 2, false)", true, x.parent(0, 2, false));
            Check.is("none is left", 0, x.ofTag(0, 2));
        });
        Edge.term(parents, "what is ABOVE the other one is ABOVE it then", x -> {
            Check.mainTags(x, 4);
            x.parent(0, 1, true);
            x.parent(2, 3, true);
            x.merge(1, 2);
            Check.is("ofTag(0, 2)", Check.set(2, 3), x.ofTag(0, 2));
        });
        String gone = "its own PARENTS are gone";
        Edge.term(gone, "the other one does not get them", x -> {
            Check.mainTags(x, 3);
            x.parent(0, 2, true);
            x.merge(0, 1);
            Check.is("ABOVE it", 0, x.ofTag(0, 2));
            Check.is("ABOVE the other one", 0, x.ofTag(1, 2));
        });
        Edge.term(gone, "also when it is MAIN again", x -> {
            Check.mainTags(x, 3);
            x.parent(0, 2, true);
            x.merge(0, 1);
            x.make(0);
            Check.is("ofTag(0, 2)", 0, x.ofTag(0, 2));
            Check.is("parent(0, 2, false)", false, x.parent(0, 2, false));
        });
    }

    private static void becomesMain() {
        String words = "A TAG that becomes MAIN has no PARENTS at first, and is no PARENT.";
        Edge.term(words, "a FREE one", x -> {
            Check.mainTags(x, 1);
            x.tag();
            x.make(1);
            Check.is("ABOVE it", 0, x.ofTag(1, 2));
            Check.is("ABOVE the other one", 0, x.ofTag(0, 2));
        });
        Edge.term(words, "an ALIAS that was a PARENT", x -> {
            Check.mainTags(x, 3);
            x.parent(0, 1, true);
            x.merge(1, 2);
            x.make(1);
            Check.is("the other one is the PARENT", Check.set(2), x.ofTag(0, 2));
            Check.is("parent(0, 1, false)", false, x.parent(0, 1, false));
        });
        Edge.term(words, "an ALIAS does not take ALIASES along", x -> {
            Check.mainTags(x, 3);
            x.merge(2, 1);
            x.merge(1, 0);
            x.make(1);
            Check.is("the one that was its ALIAS", 0, x.ofTag(2, 1));
        });
        Edge.term(words, "an ALIAS of one with PARENTS", x -> {
            chain(x, 2);
            x.tag();
            x.merge(2, 0);
            x.make(2);
            Check.is("ofTag(2, 2)", 0, x.ofTag(2, 2));
        });
    }

    private static void parentRefusals() {
        String either = "if there is no such TAG, of either";
        Edge.noSuch(18, either, "the first one", 3, THREE_MAIN, (x, tag) -> x.parent(tag, 0, true));
        Edge.noSuch(18, either, "the second one", 3, THREE_MAIN, (x, parent) -> x.parent(0, parent, false));
        for (boolean is : new boolean[] {true, false}) {
            Edge.of(18, "if both are the same", "MAIN, " + is, x -> {
                Check.mainTags(x, 1);
                Check.noArgument("parent(0, 0, " + is + ")", () -> x.parent(0, 0, is));
            });
            Edge.of(18, "if one of both is not MAIN", "the first one is FREE, " + is, x -> {
                Check.mainTags(x, 1);
                x.tag();
                Check.noState("parent(1, 0, " + is + ")", () -> x.parent(1, 0, is));
            });
            Edge.of(18, "if one of both is not MAIN", "the second one is FREE, " + is, x -> {
                Check.mainTags(x, 1);
                x.tag();
                Check.noState("parent(0, 1, " + is + ")", () -> x.parent(0, 1, is));
            });
            Edge.of(18, "if one of both is not MAIN", "the first one is an ALIAS, " + is, x -> {
                THREE_MAIN.accept(x);
                x.merge(1, 2);
                Check.noState("parent(1, 0, " + is + ")", () -> x.parent(1, 0, is));
                Check.noState("of its MAIN one", () -> x.parent(1, 2, is));
            });
            Edge.of(18, "if one of both is not MAIN", "the second one is an ALIAS, " + is, x -> {
                THREE_MAIN.accept(x);
                x.merge(1, 2);
                Check.noState("parent(0, 1, " + is + ")", () -> x.parent(0, 1, is));
                Check.noState("of its MAIN one", () -> x.parent(2, 1, is));
            });
        }
        Edge.of(18, "if one of both is not MAIN", "neither is", x -> {
            Check.tags(x, 2);
            Check.noState("parent(0, 1, false)", () -> x.parent(0, 1, false));
        });
    }

    private static void parentCircles() {
        String circle = "or, where it is to be so, the first one is ABOVE the second one";
        Edge.of(18, circle, "as its PARENT", x -> {
            chain(x, 2);
            Check.noState("parent(1, 0, true)", () -> x.parent(1, 0, true));
            Check.is("ABOVE it there is none", 0, x.ofTag(1, 2));
        });
        Edge.of(18, circle, "at the end of a chain of 30", x -> {
            chain(x, 30);
            Check.noState("parent(29, 0, true)", () -> x.parent(29, 0, true));
        });
        Edge.of(18, circle, "by what a merge put together", x -> {
            Check.mainTags(x, 4);
            x.parent(0, 1, true);
            x.parent(2, 3, true);
            x.merge(1, 2);
            Check.noState("parent(3, 0, true)", () -> x.parent(3, 0, true));
        });
        Edge.of(18, circle, "where it is not to be so, it is not refused", x -> {
            chain(x, 3);
            Check.is("parent(2, 0, false)", false, x.parent(2, 0, false));
            Check.is("parent(1, 0, false)", false, x.parent(1, 0, false));
        });
        Edge.of(18, circle, "the second one ABOVE the first one is not refused", x -> {
            chain(x, 3);
            Check.is("parent(0, 2, true)", false, x.parent(0, 2, true));
            Check.is("parent(0, 1, true), the PARENT", true, x.parent(0, 1, true));
        });
        Edge.of(18, circle, "turned round once the other way is off", x -> {
            chain(x, 2);
            x.parent(0, 1, false);
            Check.is("parent(1, 0, true)", false, x.parent(1, 0, true));
            Check.is("ABOVE 1", Check.set(0), x.ofTag(1, 2));
        });
    }

    private static void parent() {
        String was = "Returns whether it was so.";
        Edge.of(18, was, "on, and on again", x -> {
            Check.mainTags(x, 2);
            Check.is("on", false, x.parent(0, 1, true));
            Check.is("on again", true, x.parent(0, 1, true));
        });
        Edge.of(18, was, "off, and off again", x -> {
            chain(x, 2);
            Check.is("off", true, x.parent(0, 1, false));
            Check.is("off again", false, x.parent(0, 1, false));
        });
        Edge.of(18, was, "ABOVE, but no PARENT", x -> {
            chain(x, 3);
            Check.is("parent(0, 2, false)", false, x.parent(0, 2, false));
            Check.is("it is ABOVE still", Check.set(1, 2), x.ofTag(0, 2));
        });
        Edge.of(18, was, "what is ABOVE does not become a PARENT by another one", x -> {
            chain(x, 3);
            Check.mainTags(x, 1);
            x.parent(0, 3, true);
            Check.is("parent(0, 2, false)", false, x.parent(0, 2, false));
            x.parent(0, 1, false);
            Check.is("ofTag(0, 2)", Check.set(3), x.ofTag(0, 2));
        });
        String changes = "this changes something, if it was otherwise";
        for (boolean is : new boolean[] {true, false}) {
            Edge.of(18, changes, "it was otherwise: " + is, x -> {
                chainWithWork(x, !is);
                x.parent(0, 1, is);
                Check.is("waiting()", 1, x.waiting());
            });
            Edge.of(18, changes, "it was not otherwise: " + is, x -> {
                chainWithWork(x, is);
                x.parent(0, 1, is);
                Check.is("waiting()", 0, x.waiting());
            });
        }
        Edge.of(18, "Tells whether a TAG is a PARENT of another one, from now on", "29 PARENTS", x -> {
            Check.mainTags(x, 30);
            for (int parent = 1; parent < 30; parent++) {
                x.parent(0, parent, true);
            }
            Check.is("ofTag(0, 2)", (1 << 30) - 2, x.ofTag(0, 2));
            x.parent(0, 15, false);
            Check.is("without one of them", (1 << 30) - 2 - (1 << 15), x.ofTag(0, 2));
        });
    }

    private static void chainWithWork(Tagwranglery x, boolean isParent) {
        THREE_MAIN.accept(x);
        x.parent(0, 1, isParent);
        x.put(0, 2, true);
    }

    private static void above() {
        Edge.term("A MAIN TAG has PARENTS, which are MAIN", "a PARENT that becomes an ALIAS is none any more", x -> {
            Check.mainTags(x, 3);
            x.parent(0, 1, true);
            x.merge(1, 2);
            Check.is("ofTag(0, 2)", Check.set(2), x.ofTag(0, 2));
        });
        String and = "ABOVE it are its PARENTS, their PARENTS, and so on";
        Edge.term(and, "a chain of 30 upwards", x -> {
            chain(x, 30);
            for (int tag = 0; tag < 30; tag++) {
                Check.is("ofTag(" + tag + ", 2)", (1 << 30) - (1 << tag + 1), x.ofTag(tag, 2));
            }
        });
        Edge.term(and, "a chain of 30 downwards", x -> {
            Check.mainTags(x, 30);
            for (int tag = 29; tag > 0; tag--) {
                x.parent(tag, tag - 1, true);
            }
            for (int tag = 0; tag < 30; tag++) {
                Check.is("ofTag(" + tag + ", 2)", (1 << tag) - 1, x.ofTag(tag, 2));
            }
        });
        for (int middle : new int[] {0, 15, 29}) {
            Edge.term(and, "by way of TAG " + middle, x -> {
                Check.mainTags(x, 30);
                x.parent(7, middle, true);
                x.parent(middle, 8, true);
                Check.is("ofTag(7, 2)", Check.set(8, middle), x.ofTag(7, 2));
            });
        }
        Edge.term(and, "by two ways, of which one is cut", x -> {
            Check.mainTags(x, 4);
            x.parent(0, 1, true);
            x.parent(0, 2, true);
            x.parent(1, 3, true);
            x.parent(2, 3, true);
            x.parent(1, 3, false);
            Check.is("ofTag(0, 2)", Check.set(1, 2, 3), x.ofTag(0, 2));
            x.parent(2, 3, false);
            Check.is("cut both", Check.set(1, 2), x.ofTag(0, 2));
        });
        Edge.term("it is never ABOVE itself", "in a ring but for its last link", x -> {
            chain(x, 3);
            Check.noState("parent(2, 0, true)", () -> x.parent(2, 0, true));
            for (int tag = 0; tag < 3; tag++) {
                Check.is("ofTag(" + tag + ", 2)", 0, x.ofTag(tag, 2) & 1 << tag);
            }
        });
        Edge.term("it is never ABOVE itself", "after merges at both ends of a chain", x -> {
            chain(x, 5);
            Check.mainTags(x, 2);
            x.merge(5, 0);
            x.merge(4, 6);
            for (int tag = 0; tag < 7; tag++) {
                Check.is("ofTag(" + tag + ", 2)", 0, x.ofTag(tag, 2) & 1 << tag);
            }
            Check.noState("parent(6, 0, true)", () -> x.parent(6, 0, true));
        });
    }

    private static void ofTag() {
        Edge.noSuch(19, "if there is no such TAG", "the TAG", 3, THREE_MAIN, (x, tag) -> x.ofTag(tag, 0));
        Edge.outOfRange(19, "if what is out of range", "what", 0, 4, THREE_MAIN, (x, what) -> x.ofTag(0, what));
        Edge.of(19, "0 what it is: FREE to ALIAS", "each of the three", x -> {
            Check.tags(x, 3);
            x.make(1);
            x.merge(2, 1);
            Check.is("FREE", Tagwranglery.FREE, x.ofTag(0, 0));
            Check.is("MAIN", Tagwranglery.MAIN, x.ofTag(1, 0));
            Check.is("ALIAS", Tagwranglery.ALIAS, x.ofTag(2, 0));
        });
        Edge.of(19, "1 its MEANING, NONE if it has none", "a FREE one", x -> {
            x.tag();
            Check.is("ofTag(0, 1)", Tagwranglery.NONE, x.ofTag(0, 1));
        });
        Edge.of(19, "1 its MEANING, NONE if it has none", "TAG 0 is not none", x -> {
            Check.mainTags(x, 2);
            x.merge(1, 0);
            Check.is("MAIN", 0, x.ofTag(0, 1));
            Check.is("ALIAS", 0, x.ofTag(1, 1));
        });
        Edge.of(19, "2 the set of all ABOVE it, 0 if it is not MAIN", "MAIN with none", x -> {
            Check.mainTags(x, 1);
            Check.is("ofTag(0, 2)", 0, x.ofTag(0, 2));
        });
        Edge.of(19, "2 the set of all ABOVE it, 0 if it is not MAIN", "FREE", x -> {
            x.tag();
            Check.is("ofTag(0, 2)", 0, x.ofTag(0, 2));
        });
        Edge.of(19, "2 the set of all ABOVE it, 0 if it is not MAIN", "an ALIAS of one with PARENTS", x -> {
            chain(x, 2);
            x.tag();
            x.merge(2, 0);
            Check.is("ofTag(2, 2)", 0, x.ofTag(2, 2));
            Check.is("of the MAIN one", Check.set(1), x.ofTag(0, 2));
        });
        Edge.of(19, "Returns as told.", "of the last TAG", x -> {
            x.work(0, 0);
            Check.mainTags(x, 30);
            x.parent(29, 28, true);
            x.put(0, 29, true);
            int[] due = {1, 29, 1 << 28, 1, 1};
            for (int what = 0; what < 5; what++) {
                Check.is("ofTag(29, " + what + ")", due[what], x.ofTag(29, what));
            }
        });
        Edge.of(19, "Tells of a TAG.", "it changes nothing", x -> {
            chainWithWork(x, true);
            for (int what = 0; what < 5; what++) {
                Check.is("ofTag(0, " + what + ") twice", x.ofTag(0, what), x.ofTag(0, what));
            }
            Check.is("waiting()", 0, x.waiting());
        });
    }

    private static void ofTagCounts() {
        String have = "3 how many WORKS have it";
        Edge.of(19, have, "none", x -> {
            THREE_MAIN.accept(x);
            x.put(0, 1, true);
            Check.is("ofTag(0, 3)", 0, x.ofTag(0, 3));
        });
        Edge.of(19, have, "all 20, a FREE one", x -> {
            x.tag();
            for (int work = 0; work < 20; work++) {
                x.work(0, 0);
                x.put(work, 0, true);
            }
            Check.is("ofTag(0, 3)", 20, x.ofTag(0, 3));
            Check.is("ofTag(0, 4)", 0, x.ofTag(0, 4));
            x.put(19, 0, false);
            Check.is("one less", 19, x.ofTag(0, 3));
        });
        Edge.of(19, have, "not those that have an ALIAS of it, or one below it", x -> {
            THREE_MAIN.accept(x);
            x.merge(1, 0);
            x.parent(2, 0, true);
            x.put(0, 1, true);
            x.put(0, 2, true);
            Check.is("ofTag(0, 3)", 0, x.ofTag(0, 3));
            Check.is("ofTag(0, 4)", 1, x.ofTag(0, 4));
        });
        String filed = "4 how many WORKS are FILED under it";
        Edge.of(19, filed, "all 20, by one below it", x -> {
            chain(x, 2);
            for (int work = 0; work < 20; work++) {
                x.work(0, 0);
                x.put(work, 0, true);
            }
            Check.is("ofTag(1, 4)", 20, x.ofTag(1, 4));
            Check.is("ofTag(1, 3)", 0, x.ofTag(1, 3));
        });
        Edge.of(19, filed, "as long as they WAIT as before", x -> {
            THREE_MAIN.accept(x);
            x.put(0, 0, true);
            x.parent(0, 1, true);
            Check.is("ofTag(1, 4)", 0, x.ofTag(1, 4));
            x.wave(1);
            Check.is("ofTag(1, 4) after a wave", 1, x.ofTag(1, 4));
            x.parent(0, 1, false);
            Check.is("ofTag(1, 4), cut", 1, x.ofTag(1, 4));
            x.wave(1);
            Check.is("ofTag(1, 4) after another wave", 0, x.ofTag(1, 4));
        });
        Edge.of(19, filed, "one that has become an ALIAS meanwhile", x -> {
            THREE_MAIN.accept(x);
            x.put(0, 0, true);
            x.merge(0, 1);
            Check.is("ofTag(0, 4)", 1, x.ofTag(0, 4));
            Check.is("ofTag(1, 4)", 0, x.ofTag(1, 4));
        });
    }

    private static void put() {
        Edge.noSuch(20, "if there is no such WORK or TAG", "the WORK", 1, THREE_MAIN, (x, work) -> x.put(work, 0, true));
        Edge.noSuch(20, "if there is no such WORK or TAG", "the TAG", 3, THREE_MAIN, (x, tag) -> x.put(0, tag, false));
        Edge.of(20, "Returns whether it had it.", "on, and on again", x -> {
            THREE_MAIN.accept(x);
            Check.is("on", false, x.put(0, 0, true));
            Check.is("on again", true, x.put(0, 0, true));
        });
        Edge.of(20, "Returns whether it had it.", "off, and off again", x -> {
            THREE_MAIN.accept(x);
            x.put(0, 0, true);
            Check.is("off", true, x.put(0, 0, false));
            Check.is("off again", false, x.put(0, 0, false));
        });
        Edge.of(20, "Returns whether it had it.", "an ALIAS is not its MAIN one", x -> {
            THREE_MAIN.accept(x);
            x.merge(1, 0);
            x.put(0, 1, true);
            Check.is("put(0, 0, true)", false, x.put(0, 0, true));
        });
        String also = "the WORK is filed, also if it had it, or had it not, already";
        for (boolean is : new boolean[] {true, false}) {
            Edge.of(20, also, "put again: " + is, x -> {
                THREE_MAIN.accept(x);
                x.put(0, 0, true);
                x.put(0, 2, is);
                x.parent(0, 1, true);
                Check.is("it WAITS", 1, x.waiting());
                Check.is("put(0, 2, " + is + ")", is, x.put(0, 2, is));
                Check.is("it is FILED anew", Check.set(0, 1), x.under(0, false) & Check.set(0, 1));
                Check.is("it WAITS no more", 0, x.waiting());
            });
        }
        Edge.term("A WORK has TAGS, as they were put to it.", "all 30", x -> {
            x.work(0, 0);
            Check.tags(x, 30);
            for (int tag = 0; tag < 30; tag++) {
                x.put(0, tag, true);
            }
            for (int tag = 0; tag < 30; tag++) {
                Check.is("put(0, " + tag + ", false)", true, x.put(0, tag, false));
            }
            Check.is("none is left", false, x.put(0, 29, false));
        });
        Edge.term("A WORK has TAGS, as they were put to it.", "what they mean later does not change them", x -> {
            THREE_MAIN.accept(x);
            x.put(0, 0, true);
            x.merge(0, 1);
            x.wave(1);
            Check.is("the ALIAS", 1, x.ofTag(0, 3));
            Check.is("the MAIN one", 0, x.ofTag(1, 3));
            Check.is("put(0, 0, true)", true, x.put(0, 0, true));
        });
        Edge.term("A WORK has TAGS, as they were put to it.", "also a WORK without OWNERS", x -> {
            THREE_MAIN.accept(x);
            x.leave(0, 0);
            x.put(0, 2, true);
            Check.is("under(0, false)", Check.set(2), x.under(0, false));
        });
    }

    private static void filed() {
        String at = "Putting a TAG to a WORK, or taking one off, files it at once.";
        Edge.term(at, "put", x -> {
            THREE_MAIN.accept(x);
            x.put(0, 2, true);
            Check.is("under(0, false)", Check.set(2), x.under(0, false));
            Check.is("waiting()", 0, x.waiting());
        });
        Edge.term(at, "taken off", x -> {
            THREE_MAIN.accept(x);
            x.put(0, 2, true);
            x.put(0, 2, false);
            Check.is("under(0, false)", 0, x.under(0, false));
            Check.is("waiting()", 0, x.waiting());
        });
        Edge.term(at, "no other WORK", x -> {
            THREE_MAIN.accept(x);
            x.work(0, 0);
            x.put(0, 0, true);
            x.put(1, 0, true);
            x.parent(0, 1, true);
            x.put(0, 2, true);
            Check.is("under(1, false)", Check.set(0), x.under(1, false));
            Check.is("waiting()", Check.set(1), x.waiting());
        });
        String last = "What it is FILED under is what it BELONGED under when it was filed last, none at first.";
        Edge.term(last, "at first", x -> {
            THREE_MAIN.accept(x);
            Check.is("under(0, false)", 0, x.under(0, false));
        });
        Edge.term(last, "not what it BELONGS under by now", x -> {
            THREE_MAIN.accept(x);
            x.put(0, 0, true);
            x.parent(0, 1, true);
            x.parent(0, 1, false);
            x.merge(0, 2);
            Check.is("FILED", Check.set(0), x.under(0, false));
            Check.is("by now", Check.set(2), x.under(0, true));
        });
    }

    private static void belongs() {
        String words = "It BELONGS under each MAIN TAG that is the MEANING of one of them, or ABOVE such a MEANING.";
        Edge.term(words, "a FREE one has no MEANING", x -> {
            x.work(0, 0);
            x.tag();
            x.put(0, 0, true);
            Check.is("under(0, true)", 0, x.under(0, true));
        });
        Edge.term(words, "an ALIAS of one with PARENTS", x -> {
            x.work(0, 0);
            chain(x, 3);
            x.tag();
            x.merge(3, 0);
            x.put(0, 3, true);
            Check.is("under(0, true)", Check.set(0, 1, 2), x.under(0, true));
        });
        Edge.term(words, "not what is below", x -> {
            x.work(0, 0);
            chain(x, 3);
            x.put(0, 1, true);
            Check.is("under(0, true)", Check.set(1, 2), x.under(0, true));
        });
        Edge.term(words, "a chain of 30", x -> {
            x.work(0, 0);
            chain(x, 30);
            x.put(0, 0, true);
            Check.is("under(0, true)", (1 << 30) - 1, x.under(0, true));
        });
        Edge.term(words, "two of them with the same one ABOVE", x -> {
            x.work(0, 0);
            Check.mainTags(x, 3);
            x.parent(0, 2, true);
            x.parent(1, 2, true);
            x.put(0, 0, true);
            x.put(0, 1, true);
            x.put(0, 0, false);
            Check.is("one is left", Check.set(1, 2), x.under(0, true));
        });
    }

    private static void wave() {
        Edge.outOfRange(21, "if most is out of range", "most", 1, 20, x -> { }, (x, most) -> x.wave(most));
        Edge.of(21, "1 to 20", "1", x -> {
            waitingWorks(x, 20);
            Check.is("wave(1)", 1, x.wave(1));
            Check.is("the lowest one", (1 << 20) - 2, x.waiting());
        });
        Edge.of(21, "1 to 20", "20", x -> {
            waitingWorks(x, 20);
            Check.is("wave(20)", 20, x.wave(20));
            Check.is("waiting()", 0, x.waiting());
        });
        Edge.of(21, "Returns how many were filed.", "none WAITS", x -> {
            Check.is("without WORKS", 0, x.wave(20));
            x.work(0, 0);
            Check.is("without TAGS", 0, x.wave(20));
        });
        Edge.of(21, "Returns how many were filed.", "fewer than told", x -> {
            waitingWorks(x, 3);
            Check.is("wave(4)", 3, x.wave(4));
        });
        Edge.of(21, "Returns how many were filed.", "as many as told", x -> {
            waitingWorks(x, 3);
            Check.is("wave(3)", 3, x.wave(3));
            Check.is("wave(1)", 0, x.wave(1));
        });
        Edge.of(21, "Files WORKS that WAIT, the lowest ones, but no more than told.", "those that do not WAIT are not counted", x -> {
            waitingWorks(x, 5);
            x.put(0, 0, true);
            x.put(2, 0, true);
            Check.is("wave(2)", 2, x.wave(2));
            Check.is("the highest one is left", Check.set(4), x.waiting());
        });
        Edge.of(21, "Files WORKS that WAIT, the lowest ones, but no more than told.", "by their TAGS, whoever owns them", x -> {
            Check.mainTags(x, 12);
            x.work(11, 3);
            x.lock(0, true);
            x.put(0, 5, true);
            x.parent(5, 7, true);
            Check.is("wave(1)", 1, x.wave(1));
            Check.is("under(0, false)", Check.set(5, 7), x.under(0, false));
        });
        Edge.of(21, "Files WORKS that WAIT, the lowest ones, but no more than told.", "each by what is so now", x -> {
            waitingWorks(x, 2);
            x.wave(1);
            Check.is("the first one", Check.set(0, 1), x.under(0, false));
            Check.is("the second one", Check.set(0), x.under(1, false));
        });
    }

    /** WORKS with the MAIN TAG 0, which got the PARENT 1 since they were filed. */
    private static void waitingWorks(Tagwranglery x, int count) {
        Check.mainTags(x, 2);
        for (int work = 0; work < count; work++) {
            x.work(0, 0);
            x.put(work, 0, true);
        }
        x.parent(0, 1, true);
    }

    private static void waiting() {
        String words = "Returns the set of the WORKS that WAIT.";
        Edge.of(22, words, "without WORKS", x -> Check.is("waiting()", 0, x.waiting()));
        Edge.of(22, words, "all 20", x -> {
            waitingWorks(x, 20);
            Check.is("waiting()", (1 << 20) - 1, x.waiting());
        });
        Edge.of(22, words, "it files none", x -> {
            waitingWorks(x, 1);
            x.waiting();
            Check.is("waiting()", 1, x.waiting());
            Check.is("under(0, false)", Check.set(0), x.under(0, false));
        });
        String filed = "one that is filed does not WAIT any more";
        Edge.term(filed, "by put(), others WAIT still", x -> {
            waitingWorks(x, 3);
            x.put(1, 0, true);
            Check.is("waiting()", Check.set(0, 2), x.waiting());
        });
        Edge.term(filed, "by put() of its last TAG off", x -> {
            waitingWorks(x, 1);
            x.put(0, 0, false);
            Check.is("waiting()", 0, x.waiting());
            x.parent(0, 1, false);
            Check.is("without TAGS it does not begin to", 0, x.waiting());
        });
        Edge.term(filed, "by wave()", x -> {
            waitingWorks(x, 1);
            x.wave(1);
            Check.is("waiting()", 0, x.waiting());
        });
    }

    private static void changes() {
        String words = "When a call of make(), merge() or parent() changes something, all WORKS with at least one TAG WAIT";
        changed(words, "make() of a TAG of none of them", Check.set(0), x -> x.make(4));
        changed(words, "make() of an ALIAS", Check.set(0), x -> x.make(3));
        changed(words, "merge() of a FREE one", Check.set(0), x -> x.merge(4, 0));
        changed(words, "merge() of a MAIN one", Check.set(0), x -> x.merge(2, 0));
        changed(words, "merge() of an ALIAS to another one", Check.set(0), x -> x.merge(3, 0));
        changed(words, "merge() of an ALIAS to the same one", Check.set(0), x -> x.merge(3, 1));
        changed(words, "parent() on", Check.set(0), x -> x.parent(1, 2, true));
        changed(words, "parent() off", Check.set(0), x -> x.parent(0, 1, false));
        changed(words, "parent() on, as it was", 0, x -> x.parent(0, 1, true));
        changed(words, "parent() off, as it was", 0, x -> x.parent(1, 2, false));
        changed(words, "tag()", 0, x -> x.tag());
        changed(words, "make() refused", 0, x -> Check.noState("make(0)", () -> x.make(0)));
        changed(words, "merge() refused", 0, x -> Check.noState("merge(0, 1)", () -> x.merge(0, 1)));
        changed(words, "parent() refused", 0, x -> Check.noState("parent(1, 0, true)", () -> x.parent(1, 0, true)));
        Edge.term(words, "a WORK without TAGS does not, whatever else it has", x -> {
            Check.posted(x, 0, 3);
            x.lock(0, true);
            x.screen(0, true);
            x.kudos(0, 5);
            x.make(x.tag());
            x.put(0, 0, true);
            x.put(0, 0, false);
            x.make(x.tag());
            Check.is("waiting()", 0, x.waiting());
        });
        Edge.term(words, "a WORK that WAITS goes on", x -> {
            waitingWorks(x, 1);
            x.parent(0, 1, false);
            Check.is("waiting()", 1, x.waiting());
        });
    }

    /** WORK 0 has a FREE TAG alone, WORK 1 none; 0 has the PARENT 1, 3 is an ALIAS of 1, 4 is FREE. */
    private static void changed(String words, String what, int due, Consumer<Tagwranglery> call) {
        Edge.term(words, what, x -> {
            x.work(0, 0);
            x.work(0, 0);
            Check.mainTags(x, 4);
            Check.tags(x, 2);
            x.parent(0, 1, true);
            x.merge(3, 1);
            x.put(0, 5, true);
            call.accept(x);
            Check.is("waiting()", due, x.waiting());
        });
    }

    private static void under() {
        Edge.noSuch(23, "if there is no such WORK", "FILED, the WORK", 1, THREE_MAIN, (x, work) -> x.under(work, false));
        Edge.noSuch(23, "if there is no such WORK", "by now, the WORK", 1, THREE_MAIN, (x, work) -> x.under(work, true));
        String words = "Returns the set of the TAGS under which a WORK is FILED, or BELONGS now.";
        Edge.of(23, words, "none", x -> {
            THREE_MAIN.accept(x);
            Check.is("FILED", 0, x.under(0, false));
            Check.is("by now", 0, x.under(0, true));
        });
        Edge.of(23, words, "all 30", x -> {
            x.work(0, 0);
            Check.mainTags(x, 30);
            for (int tag = 0; tag < 30; tag++) {
                x.put(0, tag, true);
            }
            Check.is("FILED", (1 << 30) - 1, x.under(0, false));
            Check.is("by now", (1 << 30) - 1, x.under(0, true));
        });
        Edge.of(23, words, "it files none", x -> {
            waitingWorks(x, 1);
            Check.is("by now", Check.set(0, 1), x.under(0, true));
            Check.is("FILED", Check.set(0), x.under(0, false));
        });
    }

    private static void sets() {
        String words = "Sets of TAGS, WORKS, PEOPLE are told as bits, that of 0 lowest.";
        Edge.term(words, "TAG 0 and TAG 29", x -> {
            x.work(0, 0);
            Check.mainTags(x, 30);
            x.put(0, 0, true);
            Check.is("TAG 0", 1, x.under(0, false));
            x.put(0, 0, false);
            x.put(0, 29, true);
            Check.is("TAG 29", 536870912, x.under(0, false));
        });
        Edge.term(words, "WORK 0 and WORK 19", x -> {
            x.tag();
            for (int work = 0; work < 20; work++) {
                x.work(0, 0);
            }
            x.put(0, 0, true);
            x.put(19, 0, true);
            x.make(0);
            Check.is("waiting()", 524289, x.waiting());
        });
        Edge.term(words, "PERSON 0 and PERSON 11", x -> {
            x.work(0, 0);
            x.join(0, 11);
            Check.is("owners(0, 0)", 2049, x.owners(0, 0));
        });
    }
}
