import java.lang.reflect.Constructor;
import java.lang.reflect.Field;
import java.lang.reflect.Method;
import java.lang.reflect.Modifier;
import java.util.List;
import java.util.Set;
import java.util.TreeSet;

/** The public face of the document, all of it and nothing else (LANGUAGE.md, rules 1, 2, 5, 11). */
public final class FaceTest {
    private static final String[] FACE = {
        "go(int)", "lot(int,int,int,int,int)", "room(int,int)", "move(int,int)", "line(int,int,int,int,int,int)",
        "told(int,int)", "book(int,int)", "count(int)", "feed(int,long)", "term(int)", "fault()", "force(int,int)",
        "paper(int,int,int,int)", "goods(int,int,int,int)", "share(int,int,int,int)", "doubt(int,int,int,int)",
        "stock(int,int,int)", "news(int,int,int)", "rent(int,int)", "weight(int,int)", "weigh(int,int,int)",
        "loss(int,int)", "unpaid(int,int,int)", "money(int,int,int,int)", "sale(int,int,int,int)", "net(int,int)",
        "handings(int)", "due(int,int,int)", "coin(int,int)", "fails(int,int)", "part(int,int,boolean)", "plan(int,int)"};

    public static void main(String[] args) {
        Class<?> face = WharfPapers.class;
        Check.holds("public and final", face.getModifiers() == (Modifier.PUBLIC | Modifier.FINAL));
        Check.due("constructors", face.getDeclaredConstructors().length, 1);
        Constructor<?> only = face.getDeclaredConstructors()[0];
        Check.holds("a public constructor without arguments", Modifier.isPublic(only.getModifiers()) && only.getParameterCount() == 0);
        methods(face);
        constants(face);
        Check.holds("some twelve classes at the most", face.getDeclaredClasses().length + 1 <= 12);
        for (Class<?> inside : face.getDeclaredClasses()) {
            inside(inside);
        }
        Check.end();
    }

    private static void methods(Class<?> face) {
        Set<String> due = new TreeSet<>();
        Set<String> names = new TreeSet<>();
        for (String method : FACE) {
            due.add(method);
            names.add(method.substring(0, method.indexOf('(')));
        }
        Set<String> got = new TreeSet<>();
        for (Method method : face.getDeclaredMethods()) {
            if (Modifier.isPrivate(method.getModifiers())) {
                Check.holds("no private method is named " + method.getName(), !names.contains(method.getName()));
            } else {
                Check.holds(method + " is public, answers int and is no static one",
                    method.getModifiers() == Modifier.PUBLIC && method.getReturnType() == int.class);
                got.add(signature(method));
            }
            Check.holds("seven parameters: " + method, method.getParameterCount() <= 7);
        }
        Check.holds("the methods are " + due + ", not " + got, due.equals(got));
    }

    private static String signature(Method method) {
        StringBuilder text = new StringBuilder(method.getName()).append('(');
        for (Class<?> type : method.getParameterTypes()) {
            text.append(text.charAt(text.length() - 1) == '(' ? "" : ",").append(type.getName());
        }
        return text.append(')').toString();
    }

    private static void constants(Class<?> face) {
        Set<String> got = new TreeSet<>();
        for (Field field : face.getDeclaredFields()) {
            fieldIsPlain(field);
            if (!Modifier.isPrivate(field.getModifiers())) {
                Check.holds(field + " is a public constant",
                    field.getModifiers() == (Modifier.PUBLIC | Modifier.STATIC | Modifier.FINAL) && field.getType() == int.class);
                got.add(field.getName());
            }
        }
        Check.holds("the constants, not " + got, got.equals(Set.of("NONE", "UNKNOWN", "OUTSIDE", "NOT", "FULL")));
        Check.due("NONE", WharfPapers.NONE, -1);
        Check.due("UNKNOWN", WharfPapers.UNKNOWN, -1001);
        Check.due("OUTSIDE", WharfPapers.OUTSIDE, -1002);
        Check.due("NOT", WharfPapers.NOT, -1003);
        Check.due("FULL", WharfPapers.FULL, -1004);
    }

    private static void fieldIsPlain(Field field) {
        Check.holds(field + " is final, if it is static", !Modifier.isStatic(field.getModifiers()) || Modifier.isFinal(field.getModifiers()));
    }

    private static void inside(Class<?> inside) {
        Check.holds(inside + " is static", Modifier.isStatic(inside.getModifiers()));
        Check.holds(inside + " is not public", !Modifier.isPublic(inside.getModifiers()) && !Modifier.isProtected(inside.getModifiers()));
        int fields = 0;
        for (Field field : inside.getDeclaredFields()) {
            fieldIsPlain(field);
            fields += Modifier.isStatic(field.getModifiers()) ? 0 : 1;
        }
        Check.holds(inside + " has some twenty fields at the most: " + fields, fields <= 20);
        for (Method method : inside.getDeclaredMethods()) {
            Check.holds("seven parameters: " + method, method.getParameterCount() <= 7);
            Check.holds(method + " bears no name of the face", !List.of(FACE).stream().anyMatch(f -> f.startsWith(method.getName() + "(")));
        }
    }
}
