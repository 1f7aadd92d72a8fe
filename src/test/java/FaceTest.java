import java.lang.reflect.Constructor;
import java.lang.reflect.Field;
import java.lang.reflect.Method;
import java.lang.reflect.Modifier;
import java.util.HashSet;
import java.util.Set;
import java.util.TreeSet;

/** The public face: what the document lists, and no other member that is not private. */
public final class FaceTest {
    private static final Check CHECK = new Check("FaceTest");
    private static final Set<String> METHODS = Set.of(
        "public int TrustRows.writer(int)",
        "public int TrustRows.key(int,long,long,long)",
        "public long TrustRows.sum(long,long,long)",
        "public int TrustRows.result(int,long,long,long,long,long)",
        "public boolean TrustRows.stands(int)",
        "public int TrustRows.bar(int)",
        "public int TrustRows.rule(int,int,int,int)",
        "public int TrustRows.ruleFor(int,int)",
        "public void TrustRows.own(boolean)",
        "public int TrustRows.take(long,int,int,long)",
        "public long TrustRows.taken()",
        "public int TrustRows.counted(long,int,int,long)",
        "public int TrustRows.clash(int,int)",
        "public int TrustRows.audit(int,int)");

    public static void main(String[] args) {
        CHECK.due("the class is public and final",
            TrustRows.class.getModifiers(), Modifier.PUBLIC | Modifier.FINAL);
        CHECK.due("NONE", TrustRows.NONE, -1L);
        constructors();
        methods();
        fields();
        classesInside();
        CHECK.end();
    }

    private static void constructors() {
        Constructor<?>[] all = TrustRows.class.getDeclaredConstructors();
        CHECK.due("number of constructors", all.length, 1L);
        CHECK.due(all[0].toString(), all[0].toString().equals("public TrustRows(int)"), true);
    }

    private static void methods() {
        Set<String> open = new TreeSet<>();
        Set<String> openNames = new HashSet<>();
        for (Method method : TrustRows.class.getDeclaredMethods()) {
            if (!Modifier.isPrivate(method.getModifiers())) {
                open.add(method.toString());
                openNames.add(method.getName());
            }
        }
        CHECK.due("methods " + open, open.equals(METHODS), true);
        for (Method method : TrustRows.class.getDeclaredMethods()) {
            if (Modifier.isPrivate(method.getModifiers())) {
                CHECK.due(method + " bears a public name", openNames.contains(method.getName()), false);
            }
        }
    }

    private static void fields() {
        for (Field field : TrustRows.class.getDeclaredFields()) {
            int modifiers = field.getModifiers();
            boolean isNone = field.getName().equals("NONE");
            CHECK.due(field + " is private", Modifier.isPrivate(modifiers), !isNone);
            if (Modifier.isStatic(modifiers)) {
                CHECK.due(field + " is final", Modifier.isFinal(modifiers), true);
            }
        }
    }

    private static void classesInside() {
        for (Class<?> inside : TrustRows.class.getDeclaredClasses()) {
            int modifiers = inside.getModifiers();
            CHECK.due(inside + " is static", Modifier.isStatic(modifiers), true);
            CHECK.due(inside + " is hidden", Modifier.isPublic(modifiers) || Modifier.isProtected(modifiers), false);
        }
    }
}
