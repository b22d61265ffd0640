import java.lang.reflect.Constructor;
import java.lang.reflect.Field;
import java.lang.reflect.Method;
import java.lang.reflect.Modifier;
import java.util.Set;
import java.util.TreeSet;

/** The public face, each call with just what it throws, and nothing beside it. */
final class FaceTest {
    private static final String BOUNDS = " throws IndexOutOfBoundsException";
    private static final String ILLEGAL = " throws IllegalArgumentException";
    private static final String BOTH = BOUNDS + ",IllegalArgumentException";
    private static final String FULL = ",IllegalStateException";
    private static final String[] FACE = {
        "int addMeasure(int,int,int)" + BOTH + FULL,
        "int setStandard(int)" + BOUNDS,
        "int addStall(int)" + ILLEGAL + FULL,
        "int setWear(int,int)" + BOTH,
        "int seal(int)" + BOUNDS,
        "int setTolerance(int)" + ILLEGAL,
        "int passDays(int)" + ILLEGAL,
        "int measures()",
        "int stalls()",
        "int days()",
        "int standard()",
        "int tolerance()",
        "int fines()",
        "int baseOf(int)" + BOUNDS,
        "int stepsToEll(int)" + BOUNDS,
        "long lengthTop(int)" + BOUNDS,
        "long lengthBottom(int)" + BOUNDS,
        "boolean isLonger(int,int)" + BOUNDS,
        "int longest()",
        "int shortest()",
        "long fewestToMeet(int,int)" + BOUNDS,
        "long convert(int,int,int)" + BOTH,
        "boolean isExact(int,int,int)" + BOTH,
        "long piecesOf(int,int,int)" + BOTH,
        "long pieces(int,int)" + BOTH,
        "boolean isTold(int,int)" + BOTH,
        "int bestMeasure(int,int)" + BOTH,
        "int driftOf(int)" + BOUNDS,
        "int wearOf(int)" + BOUNDS,
        "boolean isHonest(int)" + BOUNDS,
        "long getsAt(int,int,int)" + BOTH,
        "long lossAt(int,int,int)" + BOTH,
        "int mostHonest()",
        "int mostGenerous()",
        "int driftIn(int,int)" + BOTH,
        "int finesIn(int)" + ILLEGAL,
        "int daysUntilFined(int)" + BOUNDS,
        "int bestDayAt(int)" + BOUNDS,
        "double meanDrift()",
        "long digest()",
    };

    public static void main(String[] args) {
        Class<?> market = OldMeasures.class;
        Check.due("the class", Modifier.toString(market.getModifiers()), "public final");
        Set<String> due = new TreeSet<>();
        Set<String> publicNames = new TreeSet<>();
        for (String call : FACE) {
            due.add("public " + call);
        }
        Set<String> told = new TreeSet<>();
        for (Method method : market.getDeclaredMethods()) {
            if (!Modifier.isPrivate(method.getModifiers())) {
                told.add(plain(method.toGenericString()));
                publicNames.add(method.getName());
            }
        }
        Check.due("the face", told.toString(), due.toString());
        privateNames(market, publicNames);
        Constructor<?>[] constructors = market.getDeclaredConstructors();
        Check.due("constructors", constructors.length, 1);
        Check.due("the constructor", constructors[0].toGenericString(), "public OldMeasures()");
        fields(market);
        for (Class<?> inside : market.getDeclaredClasses()) {
            Check.due("static " + inside.getName(), Modifier.isStatic(inside.getModifiers()), true);
            privateNames(inside, publicNames);
            fields(inside);
        }
        Check.end("FaceTest");
    }

    private static void privateNames(Class<?> owner, Set<String> publicNames) {
        for (Method method : owner.getDeclaredMethods()) {
            if (Modifier.isPrivate(method.getModifiers())) {
                Check.due("a private " + method.getName(), publicNames.contains(method.getName()), false);
            }
        }
    }

    private static void fields(Class<?> owner) {
        for (Field field : owner.getDeclaredFields()) {
            int modifiers = field.getModifiers();
            Check.due("private " + field.getName(), Modifier.isPrivate(modifiers), true);
            Check.due("final if static: " + field.getName(),
                    !Modifier.isStatic(modifiers) || Modifier.isFinal(modifiers), true);
        }
    }

    private static String plain(String signature) {
        return signature.replace("OldMeasures.", "").replace("java.lang.", "");
    }
}
