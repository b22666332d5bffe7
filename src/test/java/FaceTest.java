import java.lang.reflect.Constructor;
import java.lang.reflect.Field;
import java.lang.reflect.Member;
import java.lang.reflect.Method;
import java.lang.reflect.Modifier;
import java.util.TreeSet;

/** The public face, and that nothing else can be seen from outside. */
public final class FaceTest {
    private static final Checks CHECKS = new Checks();
    private static final String[] FACE = {
        "boolean live(int,boolean)", "boolean path(int,int,boolean)", "boolean power(int,boolean)",
        "boolean tick(int)", "int carrier()", "int checksum(int,int,int,int,int)",
        "int entry(int,int,int)", "int header(int,int,int,int,int)", "int held(int,int)",
        "int load(int,int)", "int moved(int)", "int place(int,int)", "int probe(int)", "int reply()",
        "int segment(int,int,int)", "int share(int,int)", "int taken()", "int wire(int)",
        "long digest(int,int)", "new(int,int,int,int)",
        "AGAIN=3", "FAREWELL=5", "NONE=-1", "NOTHING=0", "REFUSAL=4", "TAKEN=2", "WELCOME=1"};

    public static void main(String[] args) throws IllegalAccessException {
        TreeSet<String> seen = new TreeSet<>();
        for (Method method : PacketSpreader.class.getDeclaredMethods()) {
            note(seen, method, method.getReturnType() + " " + method.getName()
                    + parameters(method.getParameterTypes()));
        }
        for (Constructor<?> made : PacketSpreader.class.getDeclaredConstructors()) {
            note(seen, made, "new" + parameters(made.getParameterTypes()));
        }
        for (Field field : PacketSpreader.class.getDeclaredFields()) {
            if (!Modifier.isPrivate(field.getModifiers())) {
                note(seen, field, field.getName() + "=" + field.getInt(null));
            }
        }
        for (String member : FACE) {
            CHECKS.due(member + " is there", seen.remove(member), true);
        }
        CHECKS.due("members beside the face " + seen, seen.size(), 0);
        privateNamesAreNoPublicOnes();
        int both = Modifier.PUBLIC | Modifier.FINAL;
        CHECKS.due("public and final", PacketSpreader.class.getModifiers() & both, both);
        CHECKS.end();
    }

    private static void privateNamesAreNoPublicOnes() {
        String face = String.join("\n", FACE);
        for (Class<?> inside : PacketSpreader.class.getDeclaredClasses()) {
            noneOfTheFace(face, inside.getDeclaredMethods());
        }
        noneOfTheFace(face, PacketSpreader.class.getDeclaredMethods());
    }

    private static void noneOfTheFace(String face, Method[] methods) {
        for (Method method : methods) {
            boolean bears = face.contains(" " + method.getName() + "(");
            CHECKS.due(method + " bears the name of a public one",
                    Modifier.isPrivate(method.getModifiers()) && bears, false);
        }
    }

    private static void note(TreeSet<String> seen, Member member, String text) {
        if (Modifier.isPublic(member.getModifiers())) {
            seen.add(text);
        } else if (!Modifier.isPrivate(member.getModifiers())) {
            seen.add("not public: " + text);
        }
    }

    private static String parameters(Class<?>[] types) {
        StringBuilder text = new StringBuilder("(");
        for (Class<?> type : types) {
            text.append(text.length() == 1 ? "" : ",").append(type.getName());
        }
        return text.append(")").toString();
    }
}
