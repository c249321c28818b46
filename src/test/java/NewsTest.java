/** Promises 38 to 40: subscriptions, news and digests. */
public final class NewsTest {
    public static void main(String[] args) {
        subscribe();
        newsRefusals();
        newsOfWorks();
        newsOfPeople();
        newsHidden();
        newsOfOwners();
        firstDays();
        digest();
        Check.end();
    }

    private static void subscribe() {
        Tagwranglery x = new Tagwranglery();
        Check.noIndex("38 no WORK", () -> x.subscribe(0, false, 0));
        x.work(0, 0);
        Check.noIndex("38 PERSON -1", () -> x.subscribe(-1, false, 0));
        Check.noIndex("38 PERSON 12", () -> x.subscribe(12, true, 0));
        Check.noIndex("38 WORK -1", () -> x.subscribe(0, false, -1));
        Check.noIndex("38 WORK 1", () -> x.subscribe(0, false, 1));
        Check.noIndex("38 of PERSON -1", () -> x.subscribe(0, true, -1));
        Check.noIndex("38 of PERSON 12", () -> x.subscribe(0, true, 12));
        Check.is("38 a WORK", true, x.subscribe(11, false, 0));
        Check.is("38 a WORK again", false, x.subscribe(11, false, 0));
        Check.is("38 a PERSON of that number", true, x.subscribe(11, true, 0));
        Check.is("38 a PERSON again", false, x.subscribe(11, true, 0));
        Check.is("38 oneself", true, x.subscribe(11, true, 11));
        Check.is("38 each on their own", true, x.subscribe(10, false, 0));
    }

    private static void newsRefusals() {
        Tagwranglery x = new Tagwranglery();
        Check.noIndex("39 news(-1)", () -> x.news(-1));
        Check.noIndex("39 news(12)", () -> x.news(12));
        Check.noIndex("40 digest(-1)", () -> x.digest(-1));
        Check.noIndex("40 digest(12)", () -> x.digest(12));
    }

    private static void newsOfWorks() {
        Tagwranglery x = new Tagwranglery();
        x.work(0, 0);
        x.chapter(0);
        x.subscribe(1, false, 0);
        Check.is("39 a draft is no news", 0, x.news(1));
        x.pass(1);
        x.chapter(0);
        x.pass(1);
        x.subscribe(2, false, 0);
        x.post(0);
        Check.is("39 POSTED", 1, x.news(1));
        Check.is("39 of the DAY of now", 1, x.news(2));
        Check.is("40 all are OUT from the DAY of posting", 2, x.digest(2));
        Check.is("39 not who did not subscribe", 0, x.news(3));
        x.subscribe(3, false, 0);
        Check.is("39 later on the same DAY", 1, x.news(3));
        x.pass(1);
        x.subscribe(4, false, 0);
        Check.is("39 a DAY late", 0, x.news(4));
        Check.is("40 a DAY late", 0, x.digest(4));
        x.chapter(0);
        Check.is("39 the next chapter", 1, x.news(4));
        Check.is("40 that one alone", 1, x.digest(4));
        Check.is("40 all for those before", 3, x.digest(1));
        Check.is("40 the rest for who had a digest", 1, x.digest(2));
        Check.is("40 none comes back", 0, x.digest(2));
        Check.is("39 none comes back", 0, x.news(2));
    }

    private static void newsOfPeople() {
        Tagwranglery x = new Tagwranglery();
        x.subscribe(1, true, 0);
        Check.posted(x, 0, 0);
        Check.posted(x, 2, 0);
        Check.is("39 a WORK of whom they subscribed", 1, x.news(1));
        x.join(1, 0);
        Check.is("39 also one who joined", Check.set(0, 1), x.news(1));
        Check.is("40 chapters of both", 2, x.digest(1));
        x.chapter(0);
        x.leave(0, 0);
        Check.is("39 who left is no OWNER", 0, x.news(1));
        Check.is("39 oneself", 0, x.news(2));
        x.subscribe(2, true, 2);
        Check.is("39 oneself, subscribed", 0, x.news(2));
    }

    private static void newsHidden() {
        Tagwranglery x = new Tagwranglery();
        x.collection(2, 4);
        Check.posted(x, 0, 0);
        x.collect(0, 0);
        x.subscribe(1, true, 0);
        x.subscribe(2, false, 0);
        Check.is("39 not SEEN", 0, x.news(2));
        x.pass(2);
        Check.is("39 SEEN", 1, x.news(2));
        Check.is("39 the OWNERS are not TOLD", 0, x.news(1));
        Check.is("40 nor in a digest", 0, x.digest(1));
        x.pass(2);
        Check.is("39 the OWNERS are TOLD", 1, x.news(1));
        x.lock(0, true);
        Check.is("39 a PERSON sees it LOCKED", 1, x.news(1));
        x.block(0, 1, true);
        Check.is("39 a BLOCK hides nothing", 1, x.news(1));
        Check.is("40 in a digest", 1, x.digest(1));
    }

    private static void newsOfOwners() {
        Tagwranglery x = new Tagwranglery();
        Check.posted(x, 0, 0);
        x.subscribe(1, false, 0);
        x.subscribe(1, true, 0);
        x.join(0, 1);
        Check.is("39 an OWNER has none", 0, x.news(1));
        Check.is("40 an OWNER has none", 0, x.digest(1));
        x.leave(0, 1);
        Check.is("39 no OWNER any more", 1, x.news(1));
    }

    private static void firstDays() {
        Tagwranglery x = new Tagwranglery();
        x.pass(5);
        x.subscribe(1, false, x.work(0, 0));
        x.subscribe(2, true, 0);
        x.subscribe(3, true, 4);
        x.join(0, 4);
        x.chapter(0);
        x.post(0);
        x.pass(1);
        x.chapter(0);
        Check.is("38 a later one does not count", false, x.subscribe(1, false, 0));
        Check.is("38 of a PERSON neither", false, x.subscribe(2, true, 0));
        x.subscribe(1, true, 4);
        x.subscribe(2, false, 0);
        Check.is("40 from the first DAY, a WORK", 2, x.digest(1));
        Check.is("40 from the first DAY, a PERSON", 2, x.digest(2));
        Check.is("40 by any of the OWNERS", 2, x.digest(3));
        x.subscribe(5, true, 0);
        Check.is("40 from that DAY", 1, x.digest(5));
        Check.pass(x, 1994);
        x.chapter(0);
        Check.is("40 on the last DAY", 1, x.digest(5));
        Check.is("39 never without", 0, x.news(6));
    }

    private static void digest() {
        Tagwranglery x = new Tagwranglery();
        for (int i = 0; i < 20; i++) {
            x.work(0, 0);
            for (int chapter = 0; chapter < 8; chapter++) {
                x.chapter(i);
            }
            x.post(i);
        }
        x.subscribe(11, true, 0);
        x.subscribe(11, false, 0);
        x.subscribe(10, true, 0);
        Check.is("39 all WORKS", (1 << 20) - 1, x.news(11));
        Check.is("40 all chapters", 160, x.digest(11));
        Check.is("39 without repeats", 0, x.news(11));
        Check.is("40 without repeats", 0, x.digest(11));
        Check.is("40 each on their own", 160, x.digest(10));
        Check.is("40 the OWNER", 0, x.digest(0));
    }
}
