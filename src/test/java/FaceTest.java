import java.lang.reflect.Constructor;
import java.lang.reflect.Field;
import java.lang.reflect.Member;
import java.lang.reflect.Method;
import java.lang.reflect.Modifier;
import java.util.ArrayList;
import java.util.List;
import java.util.TreeSet;

/** The public face is the document's, and nothing else of the class can be seen. */
public final class FaceTest {
    private static final Check CHECK = new Check();

    private static final String[] FACE = {
        "int now(int)", "int row(int,int,int,int,int)", "int merge(int,int,int)", "int leads(int,int)",
        "int erase(int)", "int feed(int,int,int,int,int)", "int end(int)", "int trait()", "int fault()",
        "long value(int,int,int,int)", "int law(int,long,long)", "int limit(int,int)", "int freshen(int)",
        "long kept(int,int)", "int age(int,int,int)", "int held(int)", "int fill(int,int,int,int)",
        "long history(int,int,int)", "int told(int,int,int,int)", "int model(int)", "int needed(int)",
        "int hung(int)", "int misses(int,int)", "long shift(int,int,int,long,long,long,int)", "int count(int)",
        "int status()",
    };

    public static void main(String[] args) {
        constants();
        methods();
        othersAreHidden();
        CHECK.finish();
    }

    private static void constants() {
        CHECK.due("NONE", TraitHouse.NONE, -1);
        CHECK.due("LACK", TraitHouse.LACK, -9000000000000000000L);
    }

    private static void methods() {
        TreeSet<String> seen = new TreeSet<>();
        TreeSet<String> names = new TreeSet<>();
        for (Method each : TraitHouse.class.getDeclaredMethods()) {
            if (Modifier.isPublic(each.getModifiers())) {
                seen.add(signature(each));
                names.add(each.getName());
            }
        }
        CHECK.due("methods " + seen, seen.equals(new TreeSet<>(List.of(FACE))) ? 1 : 0, 1);
        List<Class<?>> all = new ArrayList<>(List.of(TraitHouse.class.getDeclaredClasses()));
        all.add(TraitHouse.class);
        for (Class<?> each : all) {
            for (Method method : each.getDeclaredMethods()) {
                boolean namesake = Modifier.isPrivate(method.getModifiers()) && names.contains(method.getName());
                CHECK.due("a private namesake: " + method, namesake ? 1 : 0, 0);
            }
        }
    }

    private static String signature(Method method) {
        StringBuilder text = new StringBuilder(method.getReturnType() + " " + method.getName() + "(");
        for (Class<?> each : method.getParameterTypes()) {
            text.append(text.charAt(text.length() - 1) == '(' ? "" : ",").append(each);
        }
        return text.append(")").toString();
    }

    private static void othersAreHidden() {
        List<Member> visible = new ArrayList<>();
        for (Field each : TraitHouse.class.getDeclaredFields()) {
            if (!Modifier.isPrivate(each.getModifiers())) {
                visible.add(each);
            }
            boolean loose = Modifier.isStatic(each.getModifiers()) && !Modifier.isFinal(each.getModifiers());
            CHECK.due("static and not final: " + each, loose ? 1 : 0, 0);
        }
        for (Method each : TraitHouse.class.getDeclaredMethods()) {
            if (!Modifier.isPrivate(each.getModifiers())) {
                visible.add(each);
            }
        }
        for (Constructor<?> each : TraitHouse.class.getDeclaredConstructors()) {
            visible.add(each);
        }
        CHECK.due("members to be seen: " + visible, visible.size(), FACE.length + 3);
        CHECK.due("the class is final", Modifier.isFinal(TraitHouse.class.getModifiers()) ? 1 : 0, 1);
    }
}
