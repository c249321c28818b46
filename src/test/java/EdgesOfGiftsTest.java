import java.util.function.Consumer;

/** The boundary cases of promises 29 to 31 and of the terms of gifts. */
public final class EdgesOfGiftsTest {
    private static final int ALL_PEOPLE = (1 << 12) - 1;

    public static void main(String[] args) {
        sign();
        signSets();
        signMost();
        suitsByMeaning();
        suitsByPeople();
        matchesOfAll();
        matchRefusals();
        lowest();
        lowestOfUnlike();
        Edge.end(29, 31, "Gifts");
    }

    private static void sign() {
        Edge.noSuch(29, "if there is no such PERSON", "the PERSON", 12, x -> { }, (x, person) -> x.sign(person, 0, 0, 0));
        Edge.of(29, "if the PERSON has one", "PERSON 0", x -> {
            x.sign(0, 0, 0, 0);
            Check.noState("sign(0, 0, 0, 0)", () -> x.sign(0, 0, 0, 0));
        });
        Edge.of(29, "if the PERSON has one", "the last of 8", x -> {
            eight(x);
            Check.noState("sign(7, 1, 1, 0)", () -> x.sign(7, 1, 1, 0));
        });
        Edge.of(29, "if the PERSON has one", "the SAME as a PERSON who has one has none", x -> {
            x.same(0, 1);
            x.sign(0, 0, 0, 0);
            Check.is("sign(1, 0, 0, 0)", 1, x.sign(1, 0, 0, 0));
        });
        Edge.of(29, "Adds a SIGN.", "it may wish, offer and bar nothing", x -> {
            Check.is("sign(11, 0, 0, 0)", 0, x.sign(11, 0, 0, 0));
            Check.is("matches()", 0, x.matches());
        });
    }

    private static void signSets() {
        String words = "if a set has what there is not";
        for (int bit : new int[] {0, 15, 30, 31}) {
            Edge.of(29, words, "a wish, TAG " + bit + " without TAGS", x -> Check.noArgument("sign", () -> x.sign(0, 1 << bit, 0, 0)));
            Edge.of(29, words, "an offer, TAG " + bit + " without TAGS", x -> Check.noArgument("sign", () -> x.sign(0, 0, 1 << bit, 0)));
        }
        Edge.of(29, words, "the last TAG and the one behind it", x -> {
            Check.mainTags(x, 3);
            Check.noArgument("a wish", () -> x.sign(0, 1 << 3, 0, 0));
            Check.noArgument("an offer", () -> x.sign(0, 0, 1 << 3, 0));
            Check.noArgument("a wish among good ones", () -> x.sign(0, 15, 7, 0));
            Check.noArgument("an offer among good ones", () -> x.sign(0, 7, 15, 0));
            Check.is("those that there are", 0, x.sign(0, 7, 7, 0));
        });
        Edge.of(29, words, "30 TAGS", x -> {
            Check.tags(x, 30);
            Check.noArgument("a wish, TAG 30", () -> x.sign(0, 1 << 30, 0, 0));
            Check.noArgument("an offer, TAG 30", () -> x.sign(0, 0, 1 << 30, 0));
            Check.noArgument("a wish, TAG 31", () -> x.sign(0, 1 << 31, 0, 0));
            Check.noArgument("an offer, TAG 31", () -> x.sign(0, 0, 1 << 31, 0));
            Check.noArgument("all bits", () -> x.sign(0, -1, -1, 0));
            Check.is("all 30", 0, x.sign(0, (1 << 30) - 1, (1 << 30) - 1, 0));
        });
        Edge.of(29, words, "a FREE TAG is there", x -> {
            x.tag();
            Check.is("sign(0, 1, 1, 0)", 0, x.sign(0, 1, 1, 0));
        });
        for (int bit : new int[] {12, 30, 31}) {
            Edge.of(29, words, "barred, PERSON " + bit, x -> Check.noArgument("sign", () -> x.sign(0, 0, 0, 1 << bit)));
        }
        Edge.of(29, words, "barred, all PEOPLE, oneself too", x -> Check.is("sign", 0, x.sign(0, 0, 0, ALL_PEOPLE)));
        Edge.of(29, words, "barred, all PEOPLE and one more", x -> Check.noArgument("sign", () -> x.sign(0, 0, 0, ALL_PEOPLE + (1 << 12))));
    }

    private static void signMost() {
        Edge.of(29, "Returns its number.", "from 0 to 7", x -> {
            for (int i = 0; i < 8; i++) {
                Check.is("sign " + i, i, x.sign(11 - i, 0, 0, 0));
            }
        });
        Edge.of(29, "or there are 8", "a ninth one", x -> {
            eight(x);
            Check.noState("sign(8, 0, 0, 0)", () -> x.sign(8, 0, 0, 0));
            Check.noIndex("it has not come", () -> x.match(8));
        });
        Edge.term("SIGNS are numbered from 0, at most 8, each by a PERSON who has no other one, with a set of TAGS as wishes, "
                + "one as offers, and a set of PEOPLE who are barred.", "the last one counts", x -> {
            eight(x);
            Check.is("matches()", 14833, x.matches());
        });
    }

    /** SIGNS of PEOPLE 0 to 7, each of which SUITS each other one. */
    private static void eight(Tagwranglery x) {
        some(x, 8);
    }

    private static void some(Tagwranglery x, int count) {
        Check.mainTags(x, 1);
        for (int i = 0; i < count; i++) {
            x.sign(i, 1, 1, 0);
        }
    }

    private static void suits(String words, String what, int wish, int offer, int due, Consumer<Tagwranglery> tags) {
        Edge.term(words, what, x -> {
            Check.mainTags(x, 4);
            Check.tags(x, 2);
            tags.accept(x);
            x.sign(0, wish, Check.set(3), 0);
            x.sign(1, Check.set(3), offer, 0);
            Check.is("matches()", due, x.matches());
        });
    }

    /** TAG 3 is what the second SIGN wishes and the first one offers; TAGS 4 and 5 are FREE. */
    private static void suitsByMeaning() {
        String words = "so that the MEANING of the wish is that of the offer, or ABOVE it";
        Consumer<Tagwranglery> chain = x -> {
            x.parent(0, 1, true);
            x.parent(1, 2, true);
        };
        suits(words, "the same TAG", Check.set(0), Check.set(0), 1, x -> { });
        suits(words, "another TAG", Check.set(0), Check.set(1), 0, x -> { });
        suits(words, "the wish is a PARENT", Check.set(1), Check.set(0), 1, chain);
        suits(words, "the wish is ABOVE a PARENT", Check.set(2), Check.set(0), 1, chain);
        suits(words, "the wish is below", Check.set(0), Check.set(1), 0, chain);
        suits(words, "the wish is an ALIAS", Check.set(4), Check.set(0), 1, x -> x.merge(4, 0));
        suits(words, "the offer is an ALIAS", Check.set(0), Check.set(4), 1, x -> x.merge(4, 0));
        suits(words, "both are ALIASES of the same one", Check.set(4), Check.set(5), 1, x -> {
            x.merge(4, 0);
            x.merge(5, 0);
        });
        suits(words, "the wish is ABOVE what the offer is an ALIAS of", Check.set(2), Check.set(4), 1, x -> {
            chain.accept(x);
            x.merge(4, 0);
        });
        suits(words, "the first of two wishes is enough", Check.set(0, 1), Check.set(0), 1, x -> { });
        suits(words, "the second of two wishes is enough", Check.set(0, 1), Check.set(1), 1, x -> { });
        suits(words, "the first of two offers is enough", Check.set(0), Check.set(0, 1), 1, x -> { });
        suits(words, "the second of two offers is enough", Check.set(1), Check.set(0, 1), 1, x -> { });
        suits(words, "one of more is enough", Check.set(0, 1, 4), Check.set(1, 2, 5), 1, x -> { });
        String has = "and the receiver has a wish, and the giver an offer, both with a MEANING";
        suits(has, "no wish", 0, Check.set(0, 1, 2, 3), 0, x -> { });
        suits(has, "no offer", Check.set(0, 1, 2, 3), 0, 0, x -> { });
        suits(has, "the same FREE TAG", Check.set(4), Check.set(4), 0, x -> { });
        suits(has, "two FREE TAGS", Check.set(4), Check.set(5), 0, x -> { });
        suits(has, "a FREE wish", Check.set(4), Check.set(0), 0, x -> { });
        suits(has, "a FREE offer", Check.set(0), Check.set(4), 0, x -> { });
        Edge.term(has, "a MEANING that comes and goes later", x -> {
            Check.mainTags(x, 1);
            x.tag();
            x.sign(0, 2, 2, 0);
            x.sign(1, 2, 2, 0);
            Check.is("FREE", 0, x.matches());
            x.make(1);
            Check.is("MAIN", 1, x.matches());
            x.merge(1, 0);
            Check.is("ALIAS", 1, x.matches());
        });
    }

    private static void suitsByPeople() {
        Edge.term("if both are unlike", "one SIGN alone", x -> {
            some(x, 1);
            Check.is("matches()", 0, x.matches());
        });
        for (int barred = 0; barred < 12; barred++) {
            int person = barred;
            Edge.term("neither bars the PERSON of the other", "the first one of 0 bars " + person, x -> {
                Check.mainTags(x, 1);
                x.sign(0, 1, 1, 1 << person);
                x.sign(11, 1, 1, 0);
                Check.is("matches()", person == 11 ? 0 : 1, x.matches());
            });
            Edge.term("neither bars the PERSON of the other", "the second one of 11 bars " + person, x -> {
                Check.mainTags(x, 1);
                x.sign(0, 1, 1, 0);
                x.sign(11, 1, 1, 1 << person);
                Check.is("matches()", person == 0 ? 0 : 1, x.matches());
            });
        }
        for (int sign = 0; sign < 3; sign++) {
            int bars = sign;
            Edge.term("neither bars the PERSON of the other", "of 3, SIGN " + bars + " bars the next one's", x -> {
                threeSigns(x, bars, (bars + 1) % 3);
                Check.is("matches()", 0, x.matches());
            });
            Edge.term("neither bars the PERSON of the other", "in a ring of 3, SIGN " + bars + " bars its giver's", x -> {
                ringOfThree(x, bars, (bars + 2) % 3);
                Check.is("matches()", 0, x.matches());
            });
            Edge.term("neither bars the PERSON of the other", "in a ring of 3, SIGN " + bars + " bars its receiver's", x -> {
                ringOfThree(x, bars, (bars + 1) % 3);
                Check.is("matches()", 0, x.matches());
            });
        }
        Edge.term("neither bars the PERSON of the other", "it is no number of a SIGN", x -> {
            Check.mainTags(x, 1);
            x.sign(5, 1, 1, Check.set(0, 1));
            x.sign(6, 1, 1, Check.set(0, 1));
            Check.is("matches()", 1, x.matches());
        });
        Edge.term("neither bars the PERSON of the other", "a BLOCK is no bar", x -> {
            some(x, 2);
            x.block(0, 1, true);
            x.block(1, 0, true);
            Check.is("matches()", 1, x.matches());
        });
    }

    /** SIGNS of PEOPLE 0 to 2, one of which bars another one; each SUITS each other one but for that. */
    private static void threeSigns(Tagwranglery x, int bars, int barred) {
        Check.mainTags(x, 1);
        for (int i = 0; i < 3; i++) {
            x.sign(i, 1, 1, i == bars ? 1 << barred : 0);
        }
    }

    /** The same, but each SIGN SUITS the next one alone. */
    private static void ringOfThree(Tagwranglery x, int bars, int barred) {
        Check.mainTags(x, 3);
        for (int i = 0; i < 3; i++) {
            x.sign(i, 1 << i, 1 << (i + 1) % 3, i == bars ? 1 << barred : 0);
        }
    }

    private static void matchesOfAll() {
        String words = "Returns how many MATCHES there are; without SIGNS 1.";
        int[] due = {1, 0, 1, 2, 9, 44, 265, 1854, 14833};
        for (int count = 0; count <= 8; count++) {
            int signs = count;
            Edge.of(31, words, signs + " SIGNS that SUIT each other", x -> {
                some(x, signs);
                Check.is("matches()", due[signs], x.matches());
            });
        }
        String once = "A MATCH gives each SIGN a receiver that it SUITS, each one once.";
        Edge.term(once, "one that SUITS none", x -> {
            some(x, 4);
            x.sign(4, 1, 0, 0);
            Check.is("matches()", 0, x.matches());
        });
        Edge.term(once, "one that none SUITS", x -> {
            some(x, 4);
            x.sign(4, 0, 1, 0);
            Check.is("matches()", 0, x.matches());
        });
        Edge.term(once, "two that SUIT but the same one", x -> {
            Check.mainTags(x, 3);
            x.sign(0, Check.set(0), Check.set(1), 0);
            x.sign(1, Check.set(1), Check.set(0), 0);
            x.sign(2, Check.set(2), Check.set(0), 0);
            Check.is("matches()", 0, x.matches());
        });
        Edge.term(once, "one ring of 8", x -> {
            Check.mainTags(x, 8);
            for (int i = 0; i < 8; i++) {
                x.sign(i, 1 << i, 1 << (i + 1) % 8, 0);
            }
            Check.is("matches()", 1, x.matches());
            for (int i = 0; i < 8; i++) {
                Check.is("match(" + i + ")", (i + 1) % 8, x.match(i));
            }
        });
    }

    private static void matchRefusals() {
        Edge.noSuch(30, "if there is no such SIGN", "of 2, SIGN", 2, x -> some(x, 2), (x, sign) -> x.match(sign));
        Edge.noSuch(30, "if there is no such SIGN", "of 8, SIGN", 8, x -> eight(x), (x, sign) -> x.match(sign));
        Edge.of(30, "if there is no such SIGN", "without SIGNS", x -> Check.noIndex("match(0)", () -> x.match(0)));
        String none = "NONE if there is no MATCH";
        Edge.of(30, none, "one SIGN", x -> {
            some(x, 1);
            Check.is("match(0)", -1, x.match(0));
        });
        for (int i = 0; i < 4; i++) {
            int odd = i;
            Edge.of(30, none, "of 4 SIGNS, " + odd + " SUITS none", x -> {
                Check.mainTags(x, 1);
                for (int sign = 0; sign < 4; sign++) {
                    x.sign(sign, 1, sign == odd ? 0 : 1, 0);
                }
                for (int sign = 0; sign < 4; sign++) {
                    Check.is("match(" + sign + ")", -1, x.match(sign));
                }
            });
            Edge.of(30, none, "of 4 SIGNS, none SUITS " + odd, x -> {
                Check.mainTags(x, 1);
                for (int sign = 0; sign < 4; sign++) {
                    x.sign(sign, sign == odd ? 0 : 1, 1, 0);
                }
                for (int sign = 0; sign < 4; sign++) {
                    Check.is("match(" + sign + ")", -1, x.match(sign));
                }
            });
        }
    }

    private static void receivers(String words, String what, Consumer<Tagwranglery> signs, int... due) {
        Edge.of(30, words, what, x -> {
            signs.accept(x);
            for (int sign = 0; sign < due.length; sign++) {
                Check.is("match(" + sign + ")", due[sign], x.match(sign));
            }
        });
    }

    private static void lowest() {
        String words = "Returns the receiver of a SIGN in the LOWEST MATCH.";
        receivers(words, "2", x -> some(x, 2), 1, 0);
        receivers(words, "3", x -> some(x, 3), 1, 2, 0);
        receivers(words, "4", x -> some(x, 4), 1, 0, 3, 2);
        receivers(words, "5", x -> some(x, 5), 1, 0, 3, 4, 2);
        receivers(words, "8", x -> some(x, 8), 1, 0, 3, 2, 5, 4, 7, 6);
        receivers("Returns the number of the receiver", "not that of its PERSON", x -> {
            Check.mainTags(x, 1);
            x.sign(11, 1, 1, 0);
            x.sign(10, 1, 1, 0);
        }, 1, 0);
    }

    private static void lowestOfUnlike() {
        String words = "Of two the LOWER is that in which the first SIGN with unlike receivers has the one with the lower number.";
        Edge.term(words, "the first one cannot have its lowest receiver in any MATCH", x -> {
            Check.mainTags(x, 3);
            x.sign(0, Check.set(0), Check.set(1, 2), 0);
            x.sign(1, Check.set(1), Check.set(0), 0);
            x.sign(2, Check.set(2), Check.set(1), 0);
            Check.is("match(0)", 2, x.match(0));
            Check.is("match(1)", 0, x.match(1));
            Check.is("match(2)", 1, x.match(2));
        });
        Edge.term(words, "the first one goes ahead of all others", x -> {
            Check.mainTags(x, 4);
            x.sign(0, Check.set(0), Check.set(1, 2), 0);
            x.sign(1, Check.set(1), Check.set(2, 3), 0);
            x.sign(2, Check.set(2), Check.set(0, 3), 0);
            x.sign(3, Check.set(3), Check.set(0, 1, 2), 0);
            Check.is("match(0)", 1, x.match(0));
            Check.is("match(1)", 2, x.match(1));
            Check.is("match(2)", 3, x.match(2));
            Check.is("match(3)", 0, x.match(3));
        });
        Edge.term(words, "alike but for the last two", x -> {
            some(x, 6);
            Check.is("match(4)", 5, x.match(4));
            Check.is("match(5)", 4, x.match(5));
        });
    }
}
