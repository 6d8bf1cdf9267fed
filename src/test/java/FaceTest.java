import java.lang.reflect.Constructor;
import java.lang.reflect.Field;
import java.lang.reflect.Method;
import java.lang.reflect.Modifier;
import java.util.Set;
import java.util.TreeSet;

/** The class has the document's public face and no other member that can be seen from outside. */
public final class FaceTest {
    private static final Set<String> FACE = Set.of(
            "int reset 4", "int setProcessNoise 2", "int setSensor 3", "int setGate 1",
            "int predict 1", "int correct 2", "int miss 1",
            "int level 0", "int flow 0", "int levelVariance 0", "int covariance 0", "int flowVariance 0",
            "int innovation 0", "int levelGain 0", "int flowGain 0",
            "int accepted 0", "int rejected 0", "int missed 0", "int historyLength 0",
            "int forecast 1", "int forecastVariance 1", "int stepsTo 1",
            "int steadyCycles 1", "int steadyGain 2", "int replayError 1", "int bestFlowNoise 0",
            "int undo 0", "int errorCount 1", "long digest 0",
            "NONE", "INVALID", "REJECTED", "OVERFLOW", "LEVEL", "FLOW", "new 0");

    public static void main(String[] args) {
        Set<String> seen = new TreeSet<>();
        for (Method m : TankFilter.class.getDeclaredMethods()) {
            if (!Modifier.isPrivate(m.getModifiers())) {
                due("public int method " + m.getName(), m.getModifiers() == Modifier.PUBLIC);
                seen.add(m.getReturnType() + " " + m.getName() + " " + m.getParameterCount());
            }
        }
        for (Field f : TankFilter.class.getDeclaredFields()) {
            if (!Modifier.isPrivate(f.getModifiers())) {
                due("constant " + f.getName(), Modifier.isPublic(f.getModifiers())
                        && Modifier.isStatic(f.getModifiers()) && Modifier.isFinal(f.getModifiers())
                        && f.getType() == int.class);
                seen.add(f.getName());
            }
        }
        for (Constructor<?> c : TankFilter.class.getDeclaredConstructors()) {
            due("public constructor", Modifier.isPublic(c.getModifiers()));
            seen.add("new " + c.getParameterCount());
        }
        due("the face, which is " + seen, seen.equals(FACE));
        due("public final class", TankFilter.class.getModifiers() == (Modifier.PUBLIC | Modifier.FINAL));
        constants();
        Check.end();
    }

    private static void due(String what, boolean holds) {
        Check.due(what, holds ? 1 : 0, 1);
    }

    private static void constants() {
        Check.due("NONE", TankFilter.NONE, -2000000001);
        Check.due("INVALID", TankFilter.INVALID, -2000000002);
        Check.due("REJECTED", TankFilter.REJECTED, -2000000003);
        Check.due("OVERFLOW", TankFilter.OVERFLOW, -2000000004);
        Check.due("LEVEL", TankFilter.LEVEL, 0);
        Check.due("FLOW", TankFilter.FLOW, 1);
    }
}
