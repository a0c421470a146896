import java.lang.reflect.Constructor;
import java.lang.reflect.Field;
import java.lang.reflect.Method;
import java.lang.reflect.Modifier;
import java.util.Arrays;
import java.util.TreeSet;

/**
 * The class has the document's face and no other member that can be seen from outside; and those rules of LANGUAGE.md
 * that can be seen in the compiled class (1, 5, 6 and 11) hold in it and in the classes inside it.
 */
public final class TextureBankFace {
    private static int wrong = 0;

    public static void main(String[] args) {
        Class<?> face = TextureBank.class;
        TreeSet<String> seen = new TreeSet<>();
        for (Method m : face.getDeclaredMethods()) {
            addIfSeen(seen, m.getModifiers(), m.toString());
        }
        for (Constructor<?> c : face.getDeclaredConstructors()) {
            addIfSeen(seen, c.getModifiers(), c.toString());
        }
        for (Field f : face.getDeclaredFields()) {
            addIfSeen(seen, f.getModifiers(), f.toString());
        }
        String missing = "throws java.util.NoSuchElementException";
        String both = missing + ",java.lang.IllegalArgumentException";
        due("members", seen, new TreeSet<>(Arrays.asList(
            "public TextureBank()",
            "public static final int TextureBank.NONE",
            "public int TextureBank.put(int,int,int)",
            "public int TextureBank.add(int,int,int)",
            "public void TextureBank.clear()",
            "public int TextureBank.level(int,long,int) " + both,
            "public int TextureBank.lookUp(int,int,int,int) " + both,
            "public int TextureBank.texel(int,int,int,int) " + missing,
            "public int TextureBank.lit(int,int,int) throws java.lang.IllegalArgumentException",
            "public int TextureBank.about(int,int)",
            "public int TextureBank.count(int)")));
        due("final", Modifier.isFinal(face.getModifiers()), true);
        due("public", Modifier.isPublic(face.getModifiers()), true);
        due("package", face.getPackageName(), "");
        due("above it", face.getSuperclass(), Object.class);
        due("interfaces", face.getInterfaces().length, 0);
        for (Class<?> inside : face.getDeclaredClasses()) {
            int modifiers = inside.getModifiers();
            due(inside + " is static", Modifier.isStatic(modifiers), true);
            due(inside + " is hidden", Modifier.isPublic(modifiers) || Modifier.isProtected(modifiers), false);
            keepsToTheRules(inside);
        }
        due("not too many classes", face.getDeclaredClasses().length <= 11, true);
        keepsToTheRules(face);
        System.out.println(wrong == 0 ? "all answers are as due" : wrong + " answers are not as due");
        if (wrong != 0) {
            System.exit(1);
        }
    }

    private static void keepsToTheRules(Class<?> one) {
        int objectFields = 0;
        for (Field f : one.getDeclaredFields()) {
            boolean isStatic = Modifier.isStatic(f.getModifiers());
            due(f + " is final if it is static", !isStatic || Modifier.isFinal(f.getModifiers()), true);
            objectFields += isStatic ? 0 : 1;
        }
        due(one + " has at most twenty fields", objectFields <= 20, true);
        for (Method m : one.getDeclaredMethods()) {
            due(m + " has at most seven parameters", m.getParameterCount() <= 7, true);
            due(m + " is synchronized", Modifier.isSynchronized(m.getModifiers()), false);
            boolean isPrivate = Modifier.isPrivate(m.getModifiers());
            due(m + " has a public one's name", isPrivate && isNameOfThePublic(m.getName()), false);
        }
    }

    private static boolean isNameOfThePublic(String name) {
        for (Method m : TextureBank.class.getDeclaredMethods()) {
            if (Modifier.isPublic(m.getModifiers()) && m.getName().equals(name)) {
                return true;
            }
        }
        return false;
    }

    private static void addIfSeen(TreeSet<String> seen, int modifiers, String member) {
        if (!Modifier.isPrivate(modifiers)) {
            seen.add(member);
        }
    }

    private static void due(String what, Object got, Object want) {
        if (!got.equals(want)) {
            wrong++;
            System.out.println(what + ": found " + got + ", due is " + want);
        }
    }
}
