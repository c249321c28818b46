/** Makes a call by its name, and tells its answer as the model does: a number, or an exception's name. */
final class Caller {
    private Caller() {
    }

    static String answer(Tagwranglery x, String name, long[] given) {
        try {
            return String.valueOf(call(x, name, given));
        } catch (RuntimeException e) {
            return e.getClass().getSimpleName();
        }
    }

    private static int of(boolean is) {
        return is ? 1 : 0;
    }

    private static int call(Tagwranglery x, String name, long[] given) {
        int[] v = new int[4];
        for (int i = 0; i < given.length; i++) {
            v[i] = (int) given[i];
        }
        int a = v[0];
        int b = v[1];
        int c = v[2];
        switch (name) {
            case "pass": return x.pass(a);
            case "block": return of(x.block(a, b, c != 0));
            case "same": return of(x.same(a, b));
            case "work": return x.work(a, b);
            case "join": return x.join(a, b);
            case "leave": return x.leave(a, b);
            case "chapter": return x.chapter(a);
            case "post": return x.post(a);
            case "lock": return of(x.lock(a, b != 0));
            case "collection": return x.collection(a, b);
            case "collect": x.collect(a, b); return 0;
            case "sees": return of(x.sees(a, b));
            case "owners": return x.owners(a, b);
            case "tag": return x.tag();
            case "make": return x.make(a);
            case "merge": return x.merge(a, b);
            case "parent": return of(x.parent(a, b, c != 0));
            case "ofTag": return x.ofTag(a, b);
            case "put": return of(x.put(a, b, c != 0));
            case "wave": return x.wave(a);
            case "waiting": return x.waiting();
            case "under": return x.under(a, b != 0);
            case "type": return x.type(given[0], b);
            case "wipe": return x.wipe();
            case "fault": return x.fault();
            case "search": return x.search(a, b != 0);
            case "result": return x.result(a, b);
            case "sign": return x.sign(a, b, c, v[3]);
            case "match": return x.match(a);
            case "matches": return x.matches();
            case "screen": return of(x.screen(a, b != 0));
            case "comment": return x.comment(a, b, c);
            case "change": return of(x.change(a, b));
            case "reads": return x.reads(a, b);
            case "kudos": return x.kudos(a, b);
            case "liked": return x.liked(a);
            case "subscribe": return of(x.subscribe(a, b != 0, c));
            case "news": return x.news(a);
            case "digest": return x.digest(a);
            default: throw new AssertionError(name);
        }
    }
}
