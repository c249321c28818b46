/** Promises 29 to 31: SIGNS and MATCHES. */
public final class GiftsTest {
    private static final int ALL_PEOPLE = (1 << 12) - 1;

    public static void main(String[] args) {
        sign();
        suits();
        bars();
        match();
        matches();
        Check.end();
    }

    private static void sign() {
        Tagwranglery x = new Tagwranglery();
        Check.noIndex("29 sign(-1)", () -> x.sign(-1, 0, 0, 0));
        Check.noIndex("29 sign(12): ahead of the sets", () -> x.sign(12, 1, 0, 0));
        Check.noArgument("29 a wish without TAGS", () -> x.sign(0, 1, 0, 0));
        Check.noArgument("29 an offer without TAGS", () -> x.sign(0, 0, 1, 0));
        Check.noArgument("29 no such PERSON", () -> x.sign(0, 0, 0, 1 << 12));
        Check.noArgument("29 the highest bit of barred", () -> x.sign(0, 0, 0, 1 << 31));
        Check.is("29 first", 0, x.sign(11, 0, 0, ALL_PEOPLE));
        Check.noState("29 the PERSON has one", () -> x.sign(11, 0, 0, 0));
        Check.noArgument("29 the argument comes ahead of the state", () -> x.sign(11, 1, 0, 0));
        Check.tags(x, 30);
        Check.noArgument("29 TAG 30", () -> x.sign(0, 1 << 30, 0, 0));
        Check.noArgument("29 TAG 31", () -> x.sign(0, 0, 1 << 31, 0));
        Check.is("29 all TAGS", 1, x.sign(0, (1 << 30) - 1, (1 << 30) - 1, 0));
        for (int i = 2; i < 8; i++) {
            Check.is("29 sign " + i, i, x.sign(i, 0, 0, 0));
        }
        Check.noState("29 there are 8", () -> x.sign(1, 0, 0, 0));
        Check.noIndex("29 none came by the throw", () -> x.match(8));
    }

    /** Of two SIGNS the wish of the first one is the first set, the offer of the second one the second. */
    private static Tagwranglery twoSigns(int wish, int offer) {
        Tagwranglery x = new Tagwranglery();
        Check.mainTags(x, 4);
        Check.tags(x, 2);
        x.parent(1, 0, true);
        x.parent(2, 1, true);
        x.merge(4, 2);
        x.sign(0, wish | 1 << 3, 1 << 3, 0);
        x.sign(1, 1 << 3, offer, 0);
        return x;
    }

    private static void suits() {
        Check.is("31 the same MEANING", 1, twoSigns(Check.set(2), Check.set(2)).matches());
        Check.is("31 the wish is an ALIAS", 1, twoSigns(Check.set(4), Check.set(2)).matches());
        Check.is("31 the offer is an ALIAS", 1, twoSigns(Check.set(2), Check.set(4)).matches());
        Check.is("31 the wish is a PARENT", 1, twoSigns(Check.set(1), Check.set(2)).matches());
        Check.is("31 the wish is ABOVE an ALIAS' MEANING", 1, twoSigns(Check.set(0), Check.set(4)).matches());
        Check.is("31 the wish is below", 0, twoSigns(Check.set(2), Check.set(1)).matches());
        Check.is("31 a FREE one has no MEANING", 0, twoSigns(Check.set(5), Check.set(5)).matches());
        Check.is("31 one of more is enough", 1, twoSigns(Check.set(5, 2), Check.set(0, 5, 2)).matches());
        Check.is("31 no offer", 0, twoSigns(Check.set(2), 0).matches());
        Check.is("31 no wish", 0, twoSigns(0, Check.set(2)).matches());
        Tagwranglery x = twoSigns(Check.set(2), Check.set(5));
        Check.is("31 not yet", 0, x.matches());
        x.merge(5, 2);
        Check.is("31 by the TAGS of that moment", 1, x.matches());
        x.make(5);
        Check.is("31 not any more", 0, x.matches());
    }

    private static void bars() {
        for (int who = 0; who < 2; who++) {
            for (int barred = 0; barred < 12; barred++) {
                Tagwranglery x = new Tagwranglery();
                Check.mainTags(x, 1);
                x.sign(3, 1, 1, who == 0 ? 1 << barred : 0);
                x.sign(7, 1, 1, who == 1 ? 1 << barred : 0);
                boolean bars = barred == (who == 0 ? 7 : 3);
                Check.is("31 SIGN " + who + " bars " + barred, bars ? 0 : 1, x.matches());
            }
        }
        Tagwranglery x = new Tagwranglery();
        Check.mainTags(x, 1);
        x.sign(0, 1, 1, 0);
        x.sign(1, 1, 1, 0);
        x.block(0, 1, true);
        x.same(0, 1);
        Check.is("31 a BLOCK is no bar", 1, x.matches());
    }

    private static void match() {
        Tagwranglery x = new Tagwranglery();
        Check.mainTags(x, 4);
        Check.noIndex("30 match(0)", () -> x.match(0));
        x.sign(5, 1, 1, 0);
        Check.noIndex("30 match(-1)", () -> x.match(-1));
        Check.noIndex("30 match(1)", () -> x.match(1));
        Check.is("30 not itself", -1, x.match(0));
        x.sign(4, 1, 1, 0);
        Check.is("30 the other one", 1, x.match(0));
        Check.is("30 and back", 0, x.match(1));
        x.sign(3, 1, 1, 0);
        receivers(x, 1, 2, 0);
        x.sign(2, 1, 1, 0);
        receivers(x, 1, 0, 3, 2);
        x.sign(1, 1, 1, 0);
        receivers(x, 1, 0, 3, 4, 2);
        x.sign(0, 2, 1, 0);
        receivers(x, -1, -1, -1, -1, -1, -1);
        x.parent(0, 1, true);
        receivers(x, 1, 0, 3, 2, 5, 4);
        Tagwranglery y = new Tagwranglery();
        Check.mainTags(y, 3);
        y.sign(0, Check.set(0), Check.set(1, 2), 0);
        y.sign(1, Check.set(1), Check.set(0, 2), 0);
        y.sign(2, Check.set(2), Check.set(1), 0);
        receivers(y, 2, 0, 1);
    }

    private static void receivers(Tagwranglery x, int... due) {
        for (int sign = 0; sign < due.length; sign++) {
            Check.is("30 match(" + sign + ") of " + due.length, due[sign], x.match(sign));
        }
    }

    private static void matches() {
        Tagwranglery x = new Tagwranglery();
        Check.is("31 without SIGNS", 1, x.matches());
        Check.mainTags(x, 1);
        int[] derangements = {0, 1, 2, 9, 44, 265, 1854, 14833};
        for (int i = 0; i < 8; i++) {
            x.sign(i, 1, 1, 0);
            Check.is("31 with " + (i + 1) + " SIGNS", derangements[i], x.matches());
        }
    }
}
