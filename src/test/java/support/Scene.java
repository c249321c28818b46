/** Archives in which much has happened, each made by fewer than 200 calls. */
enum Scene {
    /** Something of each kind, and room for more; the tape is a query. */
    BUSY {
        @Override
        void make(Tagwranglery x) {
            busyWorks(x);
            busyTags(x);
            busyComments(x);
            Check.type(x, "t00|r1&a00");
            x.sign(0, Check.set(0, 2), Check.set(5), 0);
            x.sign(1, Check.set(2), Check.set(0), Check.set(11));
            x.block(0, 6, true);
            x.block(8, 9, true);
        }
    },
    /** The same, but the tape is no query. */
    NO_QUERY {
        @Override
        void make(Tagwranglery x) {
            BUSY.make(x);
            x.type(')', 1);
        }
    },
    /** As many as can be of all that is counted, on the last DAY. */
    FULL {
        @Override
        void make(Tagwranglery x) {
            x.work(0, 0);
            x.join(0, 1);
            x.join(0, 2);
            for (int chapter = 0; chapter < 8; chapter++) {
                x.chapter(0);
            }
            x.post(0);
            for (int work = 1; work < 20; work++) {
                x.work(3, 3);
            }
            for (int number = 0; number < 6; number++) {
                x.collection(number, 2000);
            }
            x.collect(0, 5);
            Check.tags(x, 30);
            x.make(0);
            x.make(29);
            x.parent(0, 29, true);
            x.merge(1, 0);
            x.put(0, 1, true);
            for (int person = 0; person < 8; person++) {
                x.sign(person, 1, 1, 0);
            }
            Check.pass(x, 2000);
            for (int comment = 0; comment < 60; comment++) {
                x.comment(0, 5, comment - 1);
            }
            Check.type(x, "t00|".repeat(14) + "!t00");
        }
    };

    abstract void make(Tagwranglery x);

    /** 0 is POSTED; 1 a draft; 2 LOCKED and not named; 3 has neither OWNERS nor chapters; 4 is full. */
    private static void busyWorks(Tagwranglery x) {
        x.pass(3);
        x.subscribe(10, true, 0);
        Check.posted(x, 0, 1);
        x.join(0, 1);
        x.pass(1);
        x.chapter(0);
        x.work(2, 2);
        x.chapter(1);
        Check.posted(x, 3, 0);
        x.lock(2, true);
        x.collection(2, 9);
        x.collect(2, 0);
        x.work(4, 3);
        x.leave(3, 4);
        x.work(5, 0);
        x.join(4, 6);
        x.join(4, 7);
        for (int chapter = 0; chapter < 8; chapter++) {
            x.chapter(4);
        }
        x.post(4);
        x.subscribe(10, false, 4);
        x.subscribe(11, false, 0);
        x.digest(11);
    }

    /** 0 is below 1, that below 2, 5 below 2; 3 is an ALIAS of 0; 4 is FREE. WORK 4 does not WAIT. */
    private static void busyTags(Tagwranglery x) {
        Check.mainTags(x, 3);
        Check.tags(x, 3);
        x.make(5);
        x.parent(0, 1, true);
        x.parent(1, 2, true);
        x.merge(3, 0);
        x.put(0, 3, true);
        x.put(0, 4, true);
        x.put(1, 2, true);
        x.parent(5, 2, true);
        x.put(4, 5, true);
    }

    /** 1 is beneath 0, and 2 beneath 1, which is FROZEN; 3 is SCREENED, 4 REMOVED. FACES 21 and 22 are the SAME. */
    private static void busyComments(Tagwranglery x) {
        x.comment(0, 8, -1);
        x.comment(0, 20, 0);
        x.comment(0, 9, 1);
        x.change(1, 0);
        x.screen(0, true);
        x.comment(0, 10, -1);
        x.comment(4, 8, -1);
        x.change(4, 3);
        x.same(21, 22);
        x.kudos(0, 8);
        x.kudos(0, 21);
        x.kudos(4, 9);
    }
}
