import java.lang.reflect.Constructor;
import java.lang.reflect.Field;
import java.lang.reflect.Method;
import java.lang.reflect.Modifier;
import java.util.Set;
import java.util.TreeSet;

/** Tests that the class has the public face of the document, and no other member that can be seen from outside. */
public final class PublicFace {
    private static final Set<String> CONSTRUCTORS = Set.of("public BranchForge()");

    private static final Set<String> METHODS = Set.of(
            "public int BranchForge.leaf(int)",
            "public int BranchForge.split(int,int,int,int,int)",
            "public int BranchForge.tree(int)",
            "public int BranchForge.compile(int,int)",
            "public int BranchForge.methods()",
            "public int BranchForge.length(int)",
            "public int BranchForge.byteAt(int,int)",
            "public int BranchForge.classOf(int)",
            "public int BranchForge.classes()",
            "public int BranchForge.entries(int)",
            "public long BranchForge.entry(int,int)",
            "public boolean BranchForge.set(int,int)",
            "public long BranchForge.predict()",
            "public int BranchForge.steps()",
            "public int BranchForge.calls()",
            "public int BranchForge.reach(int)");

    private static final Set<String> CONSTANTS = Set.of(
            "public static final int BranchForge.DANGLING = 1",
            "public static final int BranchForge.TWICE = 2",
            "public static final int BranchForge.DEEP = 3");

    private static int wrong = 0;

    private static void due(String what, Object got, Object want) {
        if (!got.equals(want)) {
            wrong++;
            System.out.println(what + ": " + got + ", due is " + want);
        }
    }

    public static void main(String[] args) throws IllegalAccessException {
        theClass();
        constructors();
        methods();
        constants();
        classesInside();
        System.out.println(wrong == 0 ? "the public face is as due" : wrong + " parts of the face are not as due");
        if (wrong != 0) {
            System.exit(1);
        }
    }

    private static void theClass() {
        due("class", Modifier.toString(BranchForge.class.getModifiers()) + " " + BranchForge.class.getName(),
                "public final BranchForge");
        due("superclass", BranchForge.class.getSuperclass(), Object.class);
        due("count of interfaces", BranchForge.class.getInterfaces().length, 0);
    }

    private static void constructors() {
        Set<String> seen = new TreeSet<>();
        for (Constructor<?> c : BranchForge.class.getDeclaredConstructors()) {
            if (!Modifier.isPrivate(c.getModifiers())) {
                seen.add(c.toString());
            }
        }
        due("constructors", seen, new TreeSet<>(CONSTRUCTORS));
    }

    private static void methods() {
        Set<String> seen = new TreeSet<>();
        Set<String> publicNames = new TreeSet<>();
        Set<String> privateNames = new TreeSet<>();
        for (Method m : BranchForge.class.getDeclaredMethods()) {
            if (Modifier.isPrivate(m.getModifiers())) {
                privateNames.add(m.getName());
            } else {
                seen.add(m.toString());
                publicNames.add(m.getName());
            }
        }
        due("methods", seen, new TreeSet<>(METHODS));
        privateNames.retainAll(publicNames);
        due("private methods with a public one's name", privateNames, Set.of());
    }

    private static void constants() throws IllegalAccessException {
        Set<String> seen = new TreeSet<>();
        for (Field f : BranchForge.class.getDeclaredFields()) {
            if (!Modifier.isPrivate(f.getModifiers())) {
                seen.add(f + (Modifier.isStatic(f.getModifiers()) ? " = " + f.get(null) : ""));
            }
        }
        due("constants", seen, new TreeSet<>(CONSTANTS));
    }

    private static void classesInside() {
        for (Class<?> inside : BranchForge.class.getDeclaredClasses()) {
            int modifiers = inside.getModifiers();
            due(inside.getName() + " is static", Modifier.isStatic(modifiers), true);
            due(inside.getName() + " is seen from outside",
                    Modifier.isPublic(modifiers) || Modifier.isProtected(modifiers), false);
        }
    }
}
