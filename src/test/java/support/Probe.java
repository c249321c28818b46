import java.util.ArrayList;
import java.util.List;
import java.util.function.IntSupplier;

/**
 * What an archive answers to many calls. As those calls change it, each kind of probe wants an archive
 * of its own; all of them together look at all of its state. Each makes at most 300 calls.
 */
final class Probe {
    static final int KINDS = 9;

    private final Tagwranglery x;
    private final List<String> answers = new ArrayList<>();

    private Probe(Tagwranglery x) {
        this.x = x;
    }

    static List<String> answers(int kind, Tagwranglery x) {
        Probe probe = new Probe(x);
        switch (kind) {
            case 0: probe.blocks(); break;
            case 1: probe.kudos(); break;
            case 2: probe.works(); break;
            case 3: probe.tags(); break;
            case 4: probe.graph(); break;
            case 5: probe.tapeAndSigns(); break;
            case 6: probe.comments(); break;
            case 7: probe.news(); break;
            default: probe.subscriptions(); break;
        }
        return probe.answers;
    }

    private void ask(String call, IntSupplier what) {
        try {
            answers.add(call + " = " + what.getAsInt());
        } catch (RuntimeException e) {
            answers.add(call + " throws " + e.getClass().getName());
        }
    }

    private static int of(boolean is) {
        return is ? 1 : 0;
    }

    private void blocks() {
        for (int i = 0; i < 144; i++) {
            int person = i / 12;
            int other = i % 12;
            ask("block " + person + " " + other, () -> of(x.block(person, other, true)));
        }
        ask("pass", () -> x.pass(1));
    }

    private void kudos() {
        for (int i = 0; i < 20; i++) {
            int work = i;
            ask("liked " + work, () -> x.liked(work));
        }
        for (int i = 0; i < 32; i++) {
            int face = i;
            ask("kudos 0 " + face, () -> x.kudos(0, face));
            ask("kudos 4 " + face, () -> x.kudos(4, face));
        }
        for (int i = 0; i < 31; i++) {
            int face = i;
            ask("same " + face, () -> of(x.same(face, face + 1)));
            ask("liked 0", () -> x.liked(0));
        }
    }

    private void works() {
        for (int i = 0; i < 20; i++) {
            int work = i;
            ask("owners 0 of " + work, () -> x.owners(0, work));
            ask("owners 5 of " + work, () -> x.owners(5, work));
            ask("owners 31 of " + work, () -> x.owners(31, work));
            ask("sees 12 " + work, () -> of(x.sees(12, work)));
            ask("lock " + work, () -> of(x.lock(work, false)));
            ask("sees 12 " + work, () -> of(x.sees(12, work)));
            ask("chapter " + work, () -> x.chapter(work));
            ask("post " + work, () -> x.post(work));
            ask("join " + work, () -> x.join(work, 10));
            ask("leave " + work, () -> x.leave(work, 10));
            ask("collect " + work, () -> {
                x.collect(work, 0);
                return 0;
            });
            ask("sees 12 " + work, () -> of(x.sees(12, work)));
        }
        ask("work", () -> x.work(0, 0));
        ask("collection", () -> x.collection(0, 0));
    }

    private void tags() {
        for (int i = 0; i < 30; i++) {
            int tag = i;
            for (int what = 0; what < 5; what++) {
                int it = what;
                ask("ofTag " + tag + " " + what, () -> x.ofTag(tag, it));
            }
        }
        for (int i = 0; i < 20; i++) {
            int work = i;
            ask("under " + work, () -> x.under(work, false));
            ask("under by now " + work, () -> x.under(work, true));
        }
        for (int i = 0; i < 20; i++) {
            ask("waiting", x::waiting);
            ask("wave", () -> x.wave(1));
        }
        ask("tag", x::tag);
    }

    private void graph() {
        for (int i = 0; i < 150; i++) {
            int work = i / 30;
            int tag = i % 30;
            ask("put " + work + " " + tag, () -> of(x.put(work, tag, false)));
        }
        for (int i = 0; i < 36; i++) {
            int tag = i / 6;
            int parent = i % 6;
            ask("parent " + tag + " " + parent, () -> of(x.parent(tag, parent, false)));
        }
        for (int i = 0; i < 30; i++) {
            int tag = i;
            ask("parent " + tag + " 29", () -> of(x.parent(tag, 29, false)));
            ask("merge " + tag, () -> x.merge(tag, 29));
            ask("make " + tag, () -> x.make(tag));
        }
    }

    private void tapeAndSigns() {
        ask("fault", x::fault);
        for (int face : new int[] {0, 3, 31}) {
            ask("search " + face, () -> x.search(face, false));
            ask("search by now " + face, () -> x.search(face, true));
        }
        for (int i = 0; i < 21; i++) {
            int place = i;
            ask("result " + place, () -> x.result(3, place));
        }
        ask("type", () -> x.type('&', 1));
        ask("fault", x::fault);
        ask("wipe", x::wipe);
        ask("matches", x::matches);
        for (int i = 0; i < 9; i++) {
            int sign = i;
            ask("match " + sign, () -> x.match(sign));
        }
        for (int i = 0; i < 12; i++) {
            int person = i;
            ask("sign " + person, () -> x.sign(person, 1, 1, 0));
            ask("matches", x::matches);
        }
    }

    private void comments() {
        for (int i = 0; i < 60; i++) {
            int work = i / 3;
            int face = new int[] {0, 8, 20}[i % 3];
            ask("reads " + work + " " + face, () -> x.reads(work, face));
        }
        for (int i = 0; i < 180; i++) {
            int comment = i % 60;
            int what = 1 + i / 60;
            ask("change " + comment + " " + what, () -> of(x.change(comment, what)));
        }
        for (int i = 0; i < 20; i++) {
            int work = i;
            ask("screen " + work, () -> of(x.screen(work, true)));
            ask("comment " + work, () -> x.comment(work, 9, -1));
        }
    }

    private void news() {
        for (int i = 0; i < 12; i++) {
            int person = i;
            ask("news " + person, () -> x.news(person));
            ask("digest " + person, () -> x.digest(person));
        }
        for (int i = 0; i < 240; i++) {
            int person = i / 20;
            int work = i % 20;
            ask("subscribe " + person + " " + work, () -> of(x.subscribe(person, false, work)));
        }
    }

    private void subscriptions() {
        for (int i = 0; i < 144; i++) {
            int person = i / 12;
            int other = i % 12;
            ask("subscribe " + person + " person " + other, () -> of(x.subscribe(person, true, other)));
        }
        for (int i = 0; i < 12; i++) {
            int person = i;
            ask("digest " + person, () -> x.digest(person));
        }
    }
}
