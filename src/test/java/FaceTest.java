import java.lang.reflect.Constructor;
import java.lang.reflect.Field;
import java.lang.reflect.Method;
import java.lang.reflect.Modifier;
import java.util.Set;
import java.util.TreeSet;

/** The public face is the document's, and nothing beside it can be seen (LANGUAGE.md, rule 1). */
public final class FaceTest {
    private static final String[] FACE = {
        "public final class ZoneShelf",
        "public static final int ZoneShelf.NONE",
        "public ZoneShelf()",
        "public int ZoneShelf.create(int,int)",
        "public boolean ZoneShelf.append(int,int)",
        "public boolean ZoneShelf.appendRow(int,int,int)",
        "public boolean ZoneShelf.open(int,boolean)",
        "public boolean ZoneShelf.remove(int)",
        "public boolean ZoneShelf.rename(int,int)",
        "public boolean ZoneShelf.sync()",
        "public boolean ZoneShelf.tear()",
        "public boolean ZoneShelf.cut()",
        "public boolean ZoneShelf.mount()",
        "public boolean ZoneShelf.tidy()",
        "public boolean ZoneShelf.isUp()",
        "public int ZoneShelf.objects()",
        "public int ZoneShelf.room()",
        "public int ZoneShelf.object(int,int)",
        "public int ZoneShelf.word(int,int)",
        "public int ZoneShelf.find(int)",
        "public int ZoneShelf.list(int)",
    };

    public static void main(String[] args) {
        Check c = new Check("the face");
        c.due("what can be seen", String.join("\n", seen()), String.join("\n", new TreeSet<>(Set.of(FACE))));
        c.due("private methods with a public one's name", sharedNames(), 0);
        for (Class<?> inside : ZoneShelf.class.getDeclaredClasses()) {
            int m = inside.getModifiers();
            c.due(inside + " is static", Modifier.isStatic(m), true);
            c.due(inside + " is public or protected", Modifier.isPublic(m) || Modifier.isProtected(m), false);
        }
        Check.end();
    }

    private static Set<String> seen() {
        Set<String> seen = new TreeSet<>();
        seen.add(ZoneShelf.class.toGenericString());
        for (Field f : ZoneShelf.class.getDeclaredFields()) {
            addUnlessPrivate(seen, f.getModifiers(), f.toString());
        }
        for (Constructor<?> k : ZoneShelf.class.getDeclaredConstructors()) {
            addUnlessPrivate(seen, k.getModifiers(), k.toString());
        }
        for (Method m : ZoneShelf.class.getDeclaredMethods()) {
            addUnlessPrivate(seen, m.getModifiers(), m.toString());
        }
        return seen;
    }

    private static void addUnlessPrivate(Set<String> seen, int modifiers, String text) {
        if (!Modifier.isPrivate(modifiers)) {
            seen.add(text);
        }
    }

    private static int sharedNames() {
        Set<String> open = new TreeSet<>();
        for (Method m : ZoneShelf.class.getDeclaredMethods()) {
            if (Modifier.isPublic(m.getModifiers())) {
                open.add(m.getName());
            }
        }
        int shared = countHiddenNamed(ZoneShelf.class, open);
        for (Class<?> inside : ZoneShelf.class.getDeclaredClasses()) {
            shared += countHiddenNamed(inside, open);
        }
        return shared;
    }

    private static int countHiddenNamed(Class<?> type, Set<String> names) {
        int count = 0;
        for (Method m : type.getDeclaredMethods()) {
            if (Modifier.isPrivate(m.getModifiers()) && names.contains(m.getName())) {
                count++;
            }
        }
        return count;
    }
}
