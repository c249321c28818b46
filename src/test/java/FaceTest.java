import java.lang.reflect.Constructor;
import java.lang.reflect.Field;
import java.lang.reflect.Method;
import java.lang.reflect.Modifier;
import java.nio.file.Files;
import java.nio.file.Path;
import java.util.Set;
import java.util.TreeSet;

/** The public face, promise 1, and what of the rules of LANGUAGE.md can be seen from outside. */
public final class FaceTest {
    private static final String[] FACE = {
        "int pass(int)", "boolean block(int,int,boolean)", "boolean same(int,int)", "int work(int,int)",
        "int join(int,int)", "int leave(int,int)", "int chapter(int)", "int post(int)", "boolean lock(int,boolean)",
        "int collection(int,int)", "void collect(int,int)", "boolean sees(int,int)", "int owners(int,int)",
        "int tag()", "int make(int)", "int merge(int,int)", "boolean parent(int,int,boolean)", "int ofTag(int,int)",
        "boolean put(int,int,boolean)", "int wave(int)", "int waiting()", "int under(int,boolean)",
        "int type(long,int)", "int wipe()", "int fault()", "int search(int,boolean)", "int result(int,int)",
        "int sign(int,int,int,int)", "int match(int)", "int matches()", "boolean screen(int,boolean)",
        "int comment(int,int,int)", "boolean change(int,int)", "int reads(int,int)", "int kudos(int,int)",
        "int liked(int)", "boolean subscribe(int,boolean,int)", "int news(int)", "int digest(int)"};

    public static void main(String[] args) throws Exception {
        constants();
        methods();
        names();
        words();
        heads();
        newObject();
        Check.end();
    }

    private static void constants() {
        Check.is("NONE", -1, Tagwranglery.NONE);
        Check.is("FREE", 0, Tagwranglery.FREE);
        Check.is("MAIN", 1, Tagwranglery.MAIN);
        Check.is("ALIAS", 2, Tagwranglery.ALIAS);
    }

    private static void methods() {
        Set<String> found = new TreeSet<>();
        for (Method method : Tagwranglery.class.getDeclaredMethods()) {
            if (!Modifier.isPrivate(method.getModifiers())) {
                StringBuilder text = new StringBuilder(method.getReturnType() + " " + method.getName() + "(");
                for (Class<?> each : method.getParameterTypes()) {
                    text.append(text.charAt(text.length() - 1) == '(' ? "" : ",").append(each);
                }
                found.add(text.append(")").toString());
            }
        }
        Check.note(found.equals(new TreeSet<>(Set.of(FACE))), "the methods of the face are " + found);
        Set<String> fields = new TreeSet<>();
        for (Field field : Tagwranglery.class.getDeclaredFields()) {
            if (!Modifier.isPrivate(field.getModifiers())) {
                fields.add(field.getName());
            }
        }
        Check.note(fields.equals(Set.of("NONE", "FREE", "MAIN", "ALIAS")), "the constants are " + fields);
        Constructor<?>[] made = Tagwranglery.class.getDeclaredConstructors();
        Check.note(made.length == 1 && Modifier.isPublic(made[0].getModifiers())
                && made[0].getParameterCount() == 0, "one public constructor without parameters");
        int kind = Tagwranglery.class.getModifiers();
        Check.note(Modifier.isPublic(kind) && Modifier.isFinal(kind), "the class is public and final");
    }

    /** No method but the face's own bears one of its names; no class has too many fields. */
    private static void names() {
        Set<String> taken = new TreeSet<>();
        for (String each : FACE) {
            taken.add(each.substring(each.indexOf(' ') + 1, each.indexOf('(')));
        }
        for (Class<?> each : Tagwranglery.class.getDeclaredClasses()) {
            for (Method method : each.getDeclaredMethods()) {
                Check.note(!taken.contains(method.getName()), each + " has a method " + method.getName());
            }
            Check.note(Modifier.isStatic(each.getModifiers()), each + " is static");
            Check.note(each.getDeclaredFields().length <= 20, each + " has at most 20 fields");
        }
        Check.note(Tagwranglery.class.getDeclaredClasses().length <= 12, "at most 12 classes inside");
        for (Method method : Tagwranglery.class.getDeclaredMethods()) {
            Check.note(!Modifier.isPrivate(method.getModifiers()) || !taken.contains(method.getName()),
                    "a private method " + method.getName());
        }
    }

    /** Words that LANGUAGE.md leaves no room for. */
    private static void words() throws Exception {
        StringBuilder code = new StringBuilder();
        for (String line : Files.readAllLines(Path.of("src/main/java/Tagwranglery.java"))) {
            String part = line.trim();
            if (!part.startsWith("*") && !part.startsWith("/*") && !part.startsWith("//")) {
                code.append(part).append('\n');
            }
            if (part.startsWith("import ")) {
                Check.note(part.equals("import java.util.Arrays;"), part);
            }
        }
        String all = code.toString();
        for (String word : new String[] {"->", "::", "catch", "finally", "synchronized", "assert ", "instanceof",
            "Random", "System.out", "System.in", "System.nano", "System.current", "Thread", "Exact", "static {",
            "protected", "package ", ".equals(", "hashCode", "toString", "MAX_VALUE"}) {
            Check.note(!all.contains(word), "the program has " + word);
        }
        Check.note(all.chars().allMatch(c -> c < 127), "the program has a sign above 126");
    }

    /** The document names a head that stands ahead of the first call of each kind. */
    private static void heads() throws Exception {
        String all = Files.readString(Path.of("src/main/java/Tagwranglery.java"));
        String[][] heads = {{"FACES, days", "int pass("}, {"WORKS", "int work("}, {"TAGS", "int tag("},
            {"searches", "int type("}, {"gifts", "int sign("}, {"comments, kudos, news", "boolean screen("}};
        for (String[] head : heads) {
            int place = all.indexOf("// ---- " + head[0] + "\n\n    public ");
            Check.note(place >= 0 && all.indexOf("public ", place) == all.indexOf("public " + head[1]),
                    "no head " + head[0] + " ahead of " + head[1]);
        }
    }

    private static void newObject() {
        Tagwranglery x = new Tagwranglery();
        Check.is("1 the tape is empty", 0, x.fault());
        Check.is("1 wipe()", 0, x.wipe());
        Check.is("1 waiting()", 0, x.waiting());
        Check.is("1 matches()", 1, x.matches());
        Check.noIndex("1 no WORK", () -> x.liked(0));
        Check.noIndex("1 no TAG", () -> x.ofTag(0, 0));
        Check.noIndex("1 no SIGN", () -> x.match(0));
        Check.noIndex("1 no comment", () -> x.change(0, 0));
        for (int person = 0; person < 12; person++) {
            Check.is("1 news(" + person + ")", 0, x.news(person));
            Check.is("1 digest(" + person + ")", 0, x.digest(person));
        }
        Check.is("1 first WORK", 0, x.work(0, 0));
        Check.noIndex("1 no collection", () -> x.collect(0, 0));
        Check.is("1 first collection", 0, x.collection(0, 0));
        Check.is("1 first TAG", 0, x.tag());
        Check.is("1 first SIGN", 0, x.sign(0, 0, 0, 0));
        Check.is("1 first comment", 0, x.comment(0, 0, -1));
        Check.is("1 the DAY is 0", 1, x.pass(1));
        Tagwranglery other = new Tagwranglery();
        Check.is("1 objects share nothing", 0, other.work(1, 1));
        Check.is("1 their days neither", 2, other.pass(2));
    }
}
