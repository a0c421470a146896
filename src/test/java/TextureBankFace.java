import java.lang.reflect.Constructor;
import java.lang.reflect.Field;
import java.lang.reflect.Method;
import java.lang.reflect.Modifier;
import java.util.Arrays;
import java.util.TreeSet;

/** The class has the document's face and no other member that can be seen from outside. */
public final class TextureBankFace {
    private static int wrong = 0;

    public static void main(String[] args) {
        Class<?> face = TextureBank.class;
        TreeSet<String> seen = new TreeSet<>();
        for (Method m : face.getDeclaredMethods()) {
            addIfSeen(seen, m.getModifiers(), m.toString());
        }
        for (Constructor<?> c : face.getDeclaredConstructors()) {
            addIfSeen(seen, c.getModifiers(), c.toString());
        }
        for (Field f : face.getDeclaredFields()) {
            addIfSeen(seen, f.getModifiers(), f.toString());
        }
        String missing = "throws java.util.NoSuchElementException";
        String both = missing + ",java.lang.IllegalArgumentException";
        due("members", seen, new TreeSet<>(Arrays.asList(
            "public TextureBank()",
            "public static final int TextureBank.NONE",
            "public int TextureBank.put(int,int,int)",
            "public int TextureBank.add(int,int,int)",
            "public void TextureBank.clear()",
            "public int TextureBank.level(int,long,int) " + both,
            "public int TextureBank.lookUp(int,int,int,int) " + both,
            "public int TextureBank.texel(int,int,int,int) " + missing,
            "public int TextureBank.lit(int,int,int) throws java.lang.IllegalArgumentException",
            "public int TextureBank.about(int,int)",
            "public int TextureBank.count(int)")));
        due("final", Modifier.isFinal(face.getModifiers()), true);
        due("public", Modifier.isPublic(face.getModifiers()), true);
        System.out.println(wrong == 0 ? "all answers are as due" : wrong + " answers are not as due");
        if (wrong != 0) {
            System.exit(1);
        }
    }

    private static void addIfSeen(TreeSet<String> seen, int modifiers, String member) {
        if (!Modifier.isPrivate(modifiers)) {
            seen.add(member);
        }
    }

    private static void due(String what, Object got, Object want) {
        if (!got.equals(want)) {
            wrong++;
            System.out.println(what + ": found " + got + ", due is " + want);
        }
    }
}
