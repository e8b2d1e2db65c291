import java.lang.reflect.Field;
import java.lang.reflect.Member;
import java.lang.reflect.Method;
import java.lang.reflect.Modifier;
import java.util.ArrayList;
import java.util.Collections;
import java.util.HashSet;
import java.util.List;
import java.util.Set;

/** The public face is the document's, and nothing beside it can be seen. */
public final class FaceTest {
    private static final String[] METHODS = {
        "int about(int,int)", "int best(int,int,int,int,int)", "int blast(int,boolean)", "int curve(int)",
        "int damage(int,int,int)", "int draw(int,int,int)", "int families(int,int)", "int family(int,int,int)",
        "int fault()", "int forecast()", "int house(int,int,int,int,int)", "int join(int,int,int)",
        "int law(int,int,int,int)", "int loss(int)", "int mend(int,int)", "int mother(int,int)",
        "int often(int,int,int)", "int quake(int,int,int,int,int,int)", "int rate(int,int,int,int)",
        "int say(int)", "int set(int,int)", "int step(int,int,int)", "int strengthen(int)",
        "int tells(int,int)", "int told(int)", "int whole(int,int)", "int wipe()", "int worst(int,int)",
        "long alike(int,int,int,int)", "long few(int,int,int,int,int)", "long mean(int)",
        "long mixed(int,int,int,int,int,int)", "long score(int,int,int,int)", "long share(int,int,int,int)",
        "long slope(int,int,int,int)"
    };
    private static final String[] FIELDS = {
        "int FULL", "int NO", "int NONE", "int OUTSIDE", "int STATE", "int UNKNOWN", "long LOST"
    };

    public static void main(String[] args) {
        Due due = new Due("FaceTest");
        Class<?> face = QuakeLists.class;
        due.yes("the class is public and final",
            Modifier.isPublic(face.getModifiers()) && Modifier.isFinal(face.getModifiers()));
        due.yes("one public constructor without arguments", face.getDeclaredConstructors().length == 1
            && face.getConstructors().length == 1 && face.getConstructors()[0].getParameterCount() == 0);
        due.yes("the methods are the document's", List.of(METHODS).equals(publicMethods(face)));
        due.yes("the constants are the document's", List.of(FIELDS).equals(publicFields(face)));
        due.yes("all else is private", allElseIsPrivate(face));
        due.yes("no private method bears the name of a public one", namesDiffer(face));
        due.due("UNKNOWN", QuakeLists.UNKNOWN, -1);
        due.due("OUTSIDE", QuakeLists.OUTSIDE, -2);
        due.due("STATE", QuakeLists.STATE, -3);
        due.due("FULL", QuakeLists.FULL, -4);
        due.due("NO", QuakeLists.NO, -5);
        due.due("NONE", QuakeLists.NONE, -6);
        due.due("LOST", QuakeLists.LOST, -1000000000000000000L);
        due.end();
    }

    private static List<String> publicMethods(Class<?> face) {
        List<String> found = new ArrayList<>();
        for (Method method : face.getDeclaredMethods()) {
            if (Modifier.isPublic(method.getModifiers())) {
                StringBuilder text = new StringBuilder();
                for (Class<?> parameter : method.getParameterTypes()) {
                    text.append(text.length() == 0 ? "" : ",").append(parameter.getName());
                }
                found.add(method.getReturnType().getName() + " " + method.getName() + "(" + text + ")");
            }
        }
        Collections.sort(found);
        return found;
    }

    private static List<String> publicFields(Class<?> face) {
        List<String> found = new ArrayList<>();
        for (Field field : face.getDeclaredFields()) {
            if (Modifier.isPublic(field.getModifiers())) {
                found.add(field.getType().getName() + " " + field.getName());
            }
        }
        Collections.sort(found);
        return found;
    }

    private static boolean allElseIsPrivate(Class<?> face) {
        List<Member> members = new ArrayList<>(List.of(face.getDeclaredMethods()));
        members.addAll(List.of(face.getDeclaredFields()));
        for (Member member : members) {
            if (!Modifier.isPublic(member.getModifiers()) && !Modifier.isPrivate(member.getModifiers())) {
                return false;
            }
        }
        return true;
    }

    private static boolean namesDiffer(Class<?> face) {
        Set<String> names = new HashSet<>();
        for (Method method : face.getMethods()) {
            names.add(method.getName());
        }
        List<Class<?>> classes = new ArrayList<>(List.of(face.getDeclaredClasses()));
        classes.add(face);
        for (Class<?> one : classes) {
            for (Method method : one.getDeclaredMethods()) {
                if (Modifier.isPrivate(method.getModifiers()) && names.contains(method.getName())) {
                    return false;
                }
            }
        }
        return true;
    }
}
