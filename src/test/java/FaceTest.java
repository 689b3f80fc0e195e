import java.lang.reflect.Constructor;
import java.lang.reflect.Field;
import java.lang.reflect.Member;
import java.lang.reflect.Method;
import java.lang.reflect.Modifier;
import java.nio.file.Files;
import java.nio.file.Path;
import java.util.Arrays;
import java.util.Set;
import java.util.TreeSet;
import java.util.regex.Matcher;
import java.util.regex.Pattern;

/** The public face of the document, and rules of the language that a text or a class can show. */
public final class FaceTest {
    private static final String[] FACE = {
        "int pass(int)", "int node(int,int)", "int boost(int,int)", "int weather(int)", "int cut(int,int,int)",
        "int loud(int,int)", "int home(int,int,int,int)", "int least(int)", "int hears(int,int)",
        "int reader(int)", "int rests(int,int)", "int mayRead(int)", "int say(int,int,int)", "int stage(int)",
        "int minuteOf(int,int)", "int heard(int,int)", "int feed(int,long)", "int term(int,int)",
        "int worth(int,int)", "long account(int,int)", "int complain(int,boolean)", "int breaks(int)",
        "int could(int,int)", "int boosts(int)", "int covers(int,int,int)", "int rights(int,int,int)",
        "int news(boolean)", "int printed(int,int)", "int lag(int)", "int fresh(int)", "int advert(int)",
        "int sold(int,int)", "int put(int)", "int judge()", "int order(int,int,int,int)", "int check(int)",
        "int count(int)",
    };

    public static void main(String[] args) throws Exception {
        face();
        classesInside();
        words();
        Due.end();
    }

    private static void face() {
        Due.holds("the class is public and final", Modifier.isPublic(EarPaper.class.getModifiers())
            && Modifier.isFinal(EarPaper.class.getModifiers()));
        Set<String> due = new TreeSet<>(Arrays.asList(FACE));
        Set<String> names = publicNames();
        for (Method one : EarPaper.class.getDeclaredMethods()) {
            if (Modifier.isPublic(one.getModifiers())) {
                Due.holds(one + " is of the face", due.remove(signature(one)));
            } else {
                Due.holds(one + " is private", Modifier.isPrivate(one.getModifiers()));
                Due.holds(one + " bears no public name", !names.contains(one.getName()));
            }
        }
        Due.holds("all of the face is there, not lacking: " + due, due.isEmpty());
        for (Field one : EarPaper.class.getDeclaredFields()) {
            Due.holds(one + " is private", Modifier.isPrivate(one.getModifiers()));
        }
        Constructor<?>[] made = EarPaper.class.getDeclaredConstructors();
        Due.holds("one public constructor", made.length == 1 && made[0].getParameterCount() == 0
            && Modifier.isPublic(made[0].getModifiers()));
    }

    private static Set<String> publicNames() {
        Set<String> names = new TreeSet<>();
        for (String one : FACE) {
            names.add(one.substring(one.indexOf(' ') + 1, one.indexOf('(')));
        }
        return names;
    }

    private static String signature(Method one) {
        StringBuilder text = new StringBuilder(one.getReturnType().getName() + " " + one.getName() + "(");
        for (Class<?> kind : one.getParameterTypes()) {
            text.append(text.charAt(text.length() - 1) == '(' ? "" : ",").append(kind.getName());
        }
        return text + ")";
    }

    private static void classesInside() {
        Class<?>[] inside = EarPaper.class.getDeclaredClasses();
        Due.holds("some twelve classes", inside.length <= 12);
        for (Class<?> one : inside) {
            for (Method method : one.getDeclaredMethods()) {
                Due.holds(method + " bears no public name", !publicNames().contains(method.getName()));
            }
            Due.holds(one + " is static", Modifier.isStatic(one.getModifiers()));
            Due.holds(one + " has some twenty fields",
                Arrays.stream(one.getDeclaredFields()).filter(FaceTest::isOfAnObject).count() <= 20);
        }
        Due.holds("EarPaper has some twenty fields",
            Arrays.stream(EarPaper.class.getDeclaredFields()).filter(FaceTest::isOfAnObject).count() <= 20);
    }

    private static boolean isOfAnObject(Member one) {
        return !Modifier.isStatic(one.getModifiers());
    }

    private static void words() throws Exception {
        String source = Files.readString(Path.of("src/main/java/EarPaper.java"));
        String bare = source.replaceAll("(?s)/\\*.*?\\*/", "").replaceAll("//[^\n]*", "");
        String[] ruledOut = {"\\bthrow\\b", "\\btry\\b", "\\bcatch\\b", "\\bsynchronized\\b", "\\bassert\\b",
            "->", "::", "\\bnew \\w+(<>)?\\([^)]*\\) *\\{", "Exact\\b", "\\bSystem\\.(?!arraycopy)", "\\bpackage\\b",
            "\\bimport (?!java\\.util\\.(ArrayList|Arrays|List);)", "\\bstatic \\{", "while \\(true\\)", "for \\(;;"};
        for (String one : ruledOut) {
            Matcher found = Pattern.compile(one).matcher(bare);
            Due.holds("the program has no " + one, !found.find());
        }
        Due.holds("signs 1 to 127 alone", source.chars().allMatch(c -> c > 0 && c < 128));
    }
}
