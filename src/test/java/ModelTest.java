import java.util.ArrayList;
import java.util.List;
import java.util.Random;

/**
 * Long runs of calls, each answer beside that of the model. The seeds are fixed, so that each run of
 * this test makes the same calls. No object gets more than 512 calls.
 */
public final class ModelTest {
    private static final int RUNS = 1000;
    private static final int CALLS = 511;

    /** What a run is about: the calls that come more often. */
    private static final String[] THEMES = {
        "work join leave chapter post lock collection collect sees owners pass search result type",
        "tag make merge parent ofTag put wave waiting under work search type wipe",
        "tag make merge parent put wave work post chapter search result type wipe fault pass lock",
        "tag make merge parent sign match matches",
        "work chapter post screen comment change reads block leave join lock pass comment change reads",
        "work chapter post kudos liked same join lock kudos liked",
        "work chapter post pass join leave collection collect subscribe news digest chapter pass",
        "type wipe fault type type"};
    private static final String ALL = "pass block same work join leave chapter post lock collection collect sees owners tag "
            + "make merge parent ofTag put wave waiting under type wipe fault search result sign match matches screen "
            + "comment change reads kudos liked subscribe news digest";
    private static final String[] WORDS = {"t00", "t01", "t02", "t03", "t05", "t29", "a00", "a01", "a02", "a11", "r0", "r1",
        "r2", "r3", "&", "|", "&", "|", "!", "(", ")", "t", "a", "r", "1", "2", "3", "r1&", "t01|", "!t02"};

    private final Random random;
    private final Tagwranglery x = new Tagwranglery();
    private final Model model = new Model();
    private final List<String> made = new ArrayList<>();

    private ModelTest(int seed) {
        random = new Random(seed);
    }

    public static void main(String[] args) {
        int wrongRuns = 0;
        for (int seed = 0; seed < RUNS && wrongRuns < 3; seed++) {
            wrongRuns += new ModelTest(seed).run(seed) ? 0 : 1;
        }
        Check.end();
    }

    private boolean run(int seed) {
        String[] theme = THEMES[seed % THEMES.length].split(" ");
        String[] all = ALL.split(" ");
        for (int i = 0; i < CALLS; i++) {
            String name = random.nextInt(5) > 0 ? theme[random.nextInt(theme.length)] : all[random.nextInt(all.length)];
            long[] given = arguments(name);
            String due = model.call(name, given);
            String answer = Caller.answer(x, name, given);
            String call = name + java.util.Arrays.toString(given);
            made.add(call + " = " + answer);
            boolean good = due.equals(answer);
            Check.note(good, "run " + seed + ", call " + i + ": " + call + " answered " + answer + ", due is " + due);
            if (!good) {
                made.forEach(each -> System.out.println("    " + each));
                return false;
            }
        }
        return true;
    }

    // ---- arguments, now and then such as there are not

    private int below(int count) {
        int kind = random.nextInt(40);
        return kind == 0 ? -1 : kind == 1 ? count : random.nextInt(Math.max(count, 1));
    }

    private int few(int some, int count) {
        return random.nextInt(4) > 0 ? random.nextInt(some) : below(count);
    }

    private int aWork() {
        return random.nextInt(3) > 0 ? Math.min(random.nextInt(4), Math.max(0, model.works.size() - 1)) : below(model.works.size());
    }

    private int aTag() {
        return below(model.tags.size());
    }

    private int aPerson() {
        return few(4, 12);
    }

    private int aFace() {
        return random.nextBoolean() ? aPerson() : few(20, 32);
    }

    private int is() {
        return random.nextInt(3) > 0 ? 1 : 0;
    }

    private int aSet(int count) {
        int set = random.nextInt() & random.nextInt() & (count > 31 ? -1 : (1 << count) - 1);
        return random.nextInt(30) == 0 ? set | 1 << random.nextInt(32) : set;
    }

    private int aDay() {
        int kind = random.nextInt(20);
        return kind == 0 ? -1 : kind == 1 ? 2001 : kind == 2 ? 2000 : model.day + random.nextInt(6);
    }

    private long[] arguments(String name) {
        switch (name) {
            case "pass":
                return new long[] {random.nextInt(8) == 0 ? random.nextInt(104) - 1 : 1 + random.nextInt(2)};
            case "block":
                return new long[] {aPerson(), aPerson(), is()};
            case "same":
                return new long[] {aFace(), aFace()};
            case "work":
                return new long[] {aPerson(), below(4)};
            case "join":
            case "leave":
                return new long[] {aWork(), aPerson()};
            case "chapter":
            case "post":
            case "liked":
                return new long[] {aWork()};
            case "lock":
            case "screen":
            case "under":
                return new long[] {aWork(), random.nextInt(2)};
            case "collection":
                int opens = aDay();
                return new long[] {opens, random.nextBoolean() ? aDay() : opens + random.nextInt(4)};
            case "collect":
                return new long[] {aWork(), below(model.collections.size())};
            case "sees":
            case "owners":
                return new long[] {aFace(), aWork()};
            case "reads":
            case "kudos":
                return new long[] {aWork(), aFace()};
            case "make":
                return new long[] {aTag()};
            case "merge":
                return new long[] {aTag(), aTag()};
            case "parent":
                return new long[] {aTag(), aTag(), is()};
            case "ofTag":
                return new long[] {aTag(), below(5)};
            case "put":
                return new long[] {aWork(), aTag(), is()};
            case "wave":
                return new long[] {random.nextInt(22)};
            case "type":
                return typed();
            case "search":
                return new long[] {aFace(), random.nextInt(2)};
            case "result":
                return new long[] {aFace(), random.nextInt(9) == 0 ? -1 : random.nextInt(6)};
            case "sign":
                return new long[] {below(12), aSet(model.tags.size()), aSet(model.tags.size()), aSet(12) & aSet(12) & aSet(12)};
            case "match":
                return new long[] {below(model.signs.size())};
            case "comment":
                return new long[] {aWork(), aFace(), random.nextInt(4) == 0 ? -1 : aComment()};
            case "change":
                return new long[] {aComment(), below(4)};
            case "subscribe":
                boolean isPerson = random.nextBoolean();
                return new long[] {aPerson(), isPerson ? 1 : 0, isPerson ? aPerson() : aWork()};
            case "news":
            case "digest":
                return new long[] {aPerson()};
            default:
                return new long[0];
        }
    }

    private int aComment() {
        return random.nextInt(30) == 0 ? -2 : below(model.comments.size());
    }

    /** Mostly a word that makes the tape longer in a good way; else any. */
    private long[] typed() {
        for (int tries = 0; tries < 12; tries++) {
            String word = WORDS[random.nextInt(WORDS.length)];
            Model trial = new Model();
            trial.tape = model.tape + word;
            if (trial.tape.length() <= 60 && Integer.parseInt(trial.call("fault", new long[0])) < 0) {
                return new long[] {Check.packed(word) | random.nextLong() << 8 * word.length() - 1 << 1, word.length()};
            }
        }
        if (random.nextInt(8) == 0) {
            return new long[] {random.nextLong(), random.nextInt(10)};
        }
        String word = WORDS[random.nextInt(WORDS.length)];
        return new long[] {Check.packed(word), word.length()};
    }
}
