import java.lang.reflect.Constructor;
import java.lang.reflect.Field;
import java.lang.reflect.Member;
import java.lang.reflect.Method;
import java.lang.reflect.Modifier;
import java.util.Arrays;
import java.util.TreeSet;

/** The public face is the document's, and nothing of the class is visible beside it. */
public final class FaceTest {
    private static final String[] FACE = {
        "public static final int ThreeFiles.NONE",
        "public ThreeFiles(int)",
        "public boolean ThreeFiles.feed(int)",
        "public int ThreeFiles.row(int)",
        "public int ThreeFiles.find(int,int)",
        "public int ThreeFiles.rows(int)",
        "public boolean ThreeFiles.drop(int)",
        "public boolean ThreeFiles.crash(int,int)",
        "public boolean ThreeFiles.lose(int)",
        "public boolean ThreeFiles.poke(int,int,int)",
        "public int ThreeFiles.reopen()",
        "public int ThreeFiles.scrub(int)",
        "public int ThreeFiles.mended()",
        "public int ThreeFiles.badAt()",
        "public int ThreeFiles.byteAt(int,int,int) throws java.lang.ArrayIndexOutOfBoundsException",
        "public boolean ThreeFiles.same(int)",
        "public int ThreeFiles.odd(int)",
        "public int ThreeFiles.size(int)",
    };

    public static void main(String[] args) {
        Checks checks = new Checks("FaceTest");
        TreeSet<String> seen = new TreeSet<>();
        TreeSet<String> publicNames = new TreeSet<>();
        TreeSet<String> privateNames = new TreeSet<>();
        for (Field field : ThreeFiles.class.getDeclaredFields()) {
            note(seen, field, field.toGenericString());
        }
        for (Constructor<?> constructor : ThreeFiles.class.getDeclaredConstructors()) {
            note(seen, constructor, constructor.toGenericString());
        }
        for (Method method : ThreeFiles.class.getDeclaredMethods()) {
            note(seen, method, method.toGenericString());
            (Modifier.isPrivate(method.getModifiers()) ? privateNames : publicNames).add(method.getName());
        }
        TreeSet<String> want = new TreeSet<>(Arrays.asList(FACE));
        checks.due("the visible members are the document's: " + seen, seen.equals(want), true);
        checks.due("the class is public", Modifier.isPublic(ThreeFiles.class.getModifiers()), true);
        checks.due("the class is final", Modifier.isFinal(ThreeFiles.class.getModifiers()), true);
        checks.due("the constant NONE", ThreeFiles.NONE, -1);
        privateNames.retainAll(publicNames);
        checks.due("names that are public and private: " + privateNames, privateNames.isEmpty(), true);
        checks.end();
    }

    private static void note(TreeSet<String> seen, Member member, String text) {
        if (!Modifier.isPrivate(member.getModifiers()) && !member.isSynthetic()) {
            seen.add(text);
        }
    }
}
