import java.lang.reflect.Constructor;
import java.lang.reflect.Field;
import java.lang.reflect.Member;
import java.lang.reflect.Method;
import java.lang.reflect.Modifier;
import java.util.TreeSet;

/** The members that are not private are those of the document's face, and no others. */
public final class FaceTest {
    private static final String[] FACE = {
        "public TuneHouse()",
        "public static final int TuneHouse.NONE",
        "public boolean TuneHouse.correct(int,int,int,int)",
        "public boolean TuneHouse.doubles(int,int)",
        "public boolean TuneHouse.forge(int)",
        "public boolean TuneHouse.price(int,int)",
        "public int TuneHouse.all(int)",
        "public int TuneHouse.at(int,int,int,int) throws java.util.NoSuchElementException",
        "public int TuneHouse.changes(int,int)",
        "public int TuneHouse.column(int,int,int,int,int)",
        "public int TuneHouse.count(int)",
        "public int TuneHouse.days(int)",
        "public int TuneHouse.distance(int,int,int)",
        "public int TuneHouse.doubt(int,int,int)",
        "public int TuneHouse.family(int,int,int)",
        "public int TuneHouse.habit(int,int,int,int)",
        "public int TuneHouse.key(int,int,int)",
        "public int TuneHouse.kin(int,int,int)",
        "public int TuneHouse.note(int,int,int)",
        "public int TuneHouse.sheet(int,int,int)",
        "public int TuneHouse.source(int,int)",
        "public int TuneHouse.span(int,int,boolean)",
        "public int TuneHouse.sung(int,int,int)",
    };

    public static void main(String[] args) {
        TreeSet<String> due = new TreeSet<>();
        for (String line : FACE) {
            due.add(line);
        }
        TreeSet<String> got = new TreeSet<>();
        TreeSet<String> publicNames = new TreeSet<>();
        for (Constructor<?> c : TuneHouse.class.getDeclaredConstructors()) {
            got.add(c.toGenericString());
        }
        for (Field f : TuneHouse.class.getDeclaredFields()) {
            if (isOpen(f)) {
                got.add(f.toGenericString());
            }
        }
        for (Method m : TuneHouse.class.getDeclaredMethods()) {
            if (isOpen(m)) {
                got.add(m.toGenericString());
                publicNames.add(m.getName());
            }
        }
        boolean right = got.equals(due) && Modifier.isFinal(TuneHouse.class.getModifiers());
        for (Method m : TuneHouse.class.getDeclaredMethods()) {
            if (!isOpen(m) && publicNames.contains(m.getName())) {
                System.out.println("a private method bears a public name: " + m.getName());
                right = false;
            }
        }
        for (Class<?> inside : TuneHouse.class.getDeclaredClasses()) {
            right &= !Modifier.isPublic(inside.getModifiers()) && Modifier.isStatic(inside.getModifiers());
        }
        if (!right) {
            System.out.println("the face is " + got + ", due is " + due);
            System.exit(1);
        }
        System.out.println("the face is as due");
    }

    private static boolean isOpen(Member m) {
        return !Modifier.isPrivate(m.getModifiers()) && !m.isSynthetic();
    }
}
