import java.lang.reflect.Constructor;
import java.lang.reflect.Field;
import java.lang.reflect.Member;
import java.lang.reflect.Method;
import java.lang.reflect.Modifier;
import java.util.TreeSet;

/** The document's face and no more of it, and arguments from all over that must never throw. */
public final class FaceTest {
    private static final int[] ODD = {
        Integer.MIN_VALUE, -401, -1, 0, 1, 2, 7, 8, 9, 15, 16, 199, 200, 201, 400, 500, Integer.MAX_VALUE
    };

    public static void main(String[] args) {
        face();
        otherMembersArePrivate();
        nothingThrows(new DatumDesk());
        nothingThrows(Check.deskOf("(a . \"b\") 'c 12 ()"));
        nothingThrows(Check.deskOf("'a".repeat(40)));
        nothingThrows(Check.deskOf("(a"));
        Check.finish();
    }

    private static void face() {
        TreeSet<String> got = new TreeSet<>();
        for (Method m : DatumDesk.class.getDeclaredMethods()) {
            if (Modifier.isPublic(m.getModifiers())) {
                got.add(m.toString());
            }
        }
        TreeSet<String> want = new TreeSet<>();
        String[] calls = {
            "boolean put(long,int)", "int read()", "int place()", "int datum(int)", "int kind(int)", "int value(int)",
            "int byteAt(int,int)", "int part(int,int)", "boolean like(int,int)", "boolean write(int)", "long fetch()",
            "int count(int)"
        };
        for (String call : calls) {
            want.add("public " + call.replace(" ", " DatumDesk."));
        }
        Check.due("the public methods", got.toString(), want.toString());
        Check.due("constructors", DatumDesk.class.getDeclaredConstructors().length, 1);
        Constructor<?> made = DatumDesk.class.getDeclaredConstructors()[0];
        Check.due("the constructor", made.toString(), "public DatumDesk()");
        Check.due("the class", Modifier.toString(DatumDesk.class.getModifiers()), "public final");
    }

    private static void otherMembersArePrivate() {
        for (Field f : DatumDesk.class.getDeclaredFields()) {
            duePrivate(f);
        }
        for (Method m : DatumDesk.class.getDeclaredMethods()) {
            if (!Modifier.isPublic(m.getModifiers())) {
                duePrivate(m);
            }
        }
        for (Class<?> inside : DatumDesk.class.getDeclaredClasses()) {
            Check.due(inside + " is static", Modifier.isStatic(inside.getModifiers()), true);
            Check.due(inside + " is public", Modifier.isPublic(inside.getModifiers()), false);
        }
    }

    private static void duePrivate(Member member) {
        Check.due(member + " is private", Modifier.isPrivate(member.getModifiers()), true);
    }

    private static void nothingThrows(DatumDesk desk) {
        int nodes = desk.count(1);
        for (int a : ODD) {
            desk.datum(a);
            desk.kind(a);
            desk.value(a);
            desk.count(a);
            Check.due("write(" + a + ")", desk.write(a), a >= 0 && a < nodes);
            for (int b : new int[] {Integer.MIN_VALUE, -1, 0, 1, 200, Integer.MAX_VALUE}) {
                desk.byteAt(a, b);
                desk.part(a, b);
                desk.like(a, b);
            }
        }
        Check.due("count(1)", desk.count(1), nodes);
        Check.due("count(0)", desk.count(0), 0);
    }
}
