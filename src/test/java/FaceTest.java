import java.lang.reflect.Constructor;
import java.lang.reflect.Field;
import java.lang.reflect.Method;
import java.lang.reflect.Modifier;
import java.util.Arrays;
import java.util.TreeSet;

/** The public face as the document lists it, its constants, and a new object (promise 1). */
public final class FaceTest {
    private static int wrong = 0;

    private static void due(String call, Object got, Object want) {
        if (!got.equals(want)) {
            wrong++;
            System.out.println(call + " answered " + got + ", due is " + want);
        }
    }

    private static final String[] FACE = {
        "int type(int)", "int clearText()", "int textFault()", "int load()",
        "int setStation(int,int,int,int)", "int rotate(int,int)", "int addPath(int,int,int)", "int removePath(int)",
        "int setDrift(int,int,int)", "int setBlock(int,int)", "int setThreshold(int)", "int setFade(int,int)",
        "int setTracking(boolean,int)", "int setRecovery(int,boolean)",
        "int sweep(int)", "int refine(int)", "int survey(int)", "int select(int,int)", "int pass(int)", "int undo()",
        "int isUp()", "int beam(int)", "int direction(int,int)", "int gain(int,int,int)", "int heard(int,int)",
        "int failures()", "int interval()", "int frames()", "int time()", "int pathCount()", "int pathDirection(int,int)",
        "int quality(int,int,int)", "int bestPair()", "int shortfall()", "int share(int,int)", "int shareBits(int,int)",
        "int outage(int)", "int backupCount()", "int backupBeam(int,int)", "int backupQuality(int)",
        "int eventCount()", "int eventKind(int)", "int eventValue(int)", "int eventInterval(int)", "long digest()"
    };

    private static void methodsAndFields() {
        TreeSet<String> seen = new TreeSet<>();
        for (Method method : BeamTraining.class.getDeclaredMethods()) {
            if (Modifier.isPrivate(method.getModifiers())) continue;
            StringBuilder parameters = new StringBuilder();
            for (Class<?> type : method.getParameterTypes()) parameters.append(parameters.length() > 0 ? "," : "").append(type);
            seen.add(method.getReturnType() + " " + method.getName() + "(" + parameters + ")");
            due(method.getName() + " is public and not static", method.getModifiers(), Modifier.PUBLIC);
        }
        due("the methods", seen, new TreeSet<>(Arrays.asList(FACE)));
        TreeSet<String> constants = new TreeSet<>();
        for (Field field : BeamTraining.class.getDeclaredFields()) {
            if (!Modifier.isPrivate(field.getModifiers())) constants.add(field.getName());
        }
        due("the constants", constants,
            new TreeSet<>(Arrays.asList("OMNI", "NONE", "BAD_INDEX", "BAD_VALUE", "BAD_STATE", "FULL")));
        Constructor<?>[] constructors = BeamTraining.class.getDeclaredConstructors();
        due("constructors", constructors.length, 1);
        due("the constructor's modifiers", constructors[0].getModifiers(), Modifier.PUBLIC);
        due("the class's modifiers", BeamTraining.class.getModifiers(), Modifier.PUBLIC | Modifier.FINAL);
    }

    /** No private method bears the name of a method of the face; the classes inside keep to the language's limits. */
    private static void privateNames() {
        TreeSet<String> names = new TreeSet<>();
        for (String method : FACE) names.add(method.replaceFirst("^\\w+ ", "").replaceFirst("\\(.*", ""));
        for (Method method : BeamTraining.class.getDeclaredMethods()) {
            if (Modifier.isPrivate(method.getModifiers())) due("the name " + method.getName(), names.contains(method.getName()), false);
        }
        for (Class<?> inside : BeamTraining.class.getDeclaredClasses()) {
            due(inside + " is public or protected", (inside.getModifiers() & (Modifier.PUBLIC | Modifier.PROTECTED)) != 0, false);
            due(inside + " has more than 20 fields", inside.getDeclaredFields().length > 20, false);
            for (Method method : inside.getDeclaredMethods()) {
                due(method + " has more than 7 parameters", method.getParameterCount() > 7, false);
            }
        }
        due("more than 12 classes inside", BeamTraining.class.getDeclaredClasses().length > 12, false);
    }

    private static void constants() {
        due("OMNI", BeamTraining.OMNI, -1);
        due("NONE", BeamTraining.NONE, -100000);
        due("BAD_INDEX", BeamTraining.BAD_INDEX, -100001);
        due("BAD_VALUE", BeamTraining.BAD_VALUE, -100002);
        due("BAD_STATE", BeamTraining.BAD_STATE, -100003);
        due("FULL", BeamTraining.FULL, -100004);
    }

    private static void newObject() {
        BeamTraining x = new BeamTraining();
        due("isUp()", x.isUp(), 0);
        due("failures()", x.failures(), 0);
        due("interval()", x.interval(), 0);
        due("frames()", x.frames(), 0);
        due("time()", x.time(), 0);
        due("pathCount()", x.pathCount(), 0);
        due("backupCount()", x.backupCount(), 0);
        due("eventCount()", x.eventCount(), 0);
        due("undo()", x.undo(), -100003);
        due("textFault()", x.textFault(), 0);
        for (int station = 0; station < 2; station++) {
            due("beam", x.beam(station), -100000);
            due("direction of the last sector", x.direction(station, 7), 56);
            for (int sector = 0; sector < 8; sector++) due("heard", x.heard(station, sector), -100000);
            due("heard", x.heard(station, 8), -100001);
        }
        long h = 17;
        int[] numbers = {0, 0, 0, 0, 0, 1};
        for (int v : numbers) h = 31 * h + v;
        for (int station = 0; station < 2; station++) {
            int[] set = {8, 0, 40, -100000, -100000, -100000, -100000, -100000, -100000, -100000, -100000, -100000};
            for (int v : set) h = 31 * h + v;
        }
        int[] settings = {0, 0, 0, 4, 2, 0};
        for (int v : settings) h = 31 * h + v;
        due("digest()", x.digest(), h);
        due("setThreshold", x.setThreshold(5), 0);
        due("setFade", x.setFade(6, 7), 0);
        due("setTracking", x.setTracking(true, 8), 0);
        due("setRecovery", x.setRecovery(9, true), 2);
        due("another object is untouched", new BeamTraining().digest(), h);
    }

    public static void main(String[] args) {
        methodsAndFields();
        privateNames();
        constants();
        newObject();
        System.out.println(wrong == 0 ? "all answers are as due" : wrong + " answers are not as due");
        if (wrong != 0) System.exit(1);
    }
}
