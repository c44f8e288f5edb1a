import java.lang.management.ManagementFactory;
import java.lang.reflect.Member;
import java.lang.reflect.Modifier;
import java.util.Arrays;
import java.util.Set;
import java.util.TreeSet;
import java.util.stream.Collectors;
import java.util.stream.Stream;

/** The face of the class is the document's and nothing more, and its calls leave the room as it is. */
public final class FaceTest {
    private static final Set<String> FACE = new TreeSet<>(Set.of(
            "public static final int CaseNet.BAD",
            "public static final int CaseNet.NOT_SO",
            "public static final int CaseNet.FULL",
            "public CaseNet()",
            "public boolean CaseNet.task(int,int,int,int,int)",
            "public boolean CaseNet.region(int,int)",
            "public boolean CaseNet.guard(int,int,int,int,int)",
            "public boolean CaseNet.items(int,int,int,int,int)",
            "public boolean CaseNet.launch()",
            "public boolean CaseNet.cancel()",
            "public int CaseNet.enabled()",
            "public int CaseNet.fire(int)",
            "public int CaseNet.start(int)",
            "public int CaseNet.finish(int,int)",
            "public int CaseNet.fail(int)",
            "public int CaseNet.tick(int)",
            "public boolean CaseNet.set(int,int)",
            "public int CaseNet.variable(int)",
            "public int CaseNet.marking()",
            "public int CaseNet.item(int,int)",
            "public int CaseNet.covers(int,int,int)",
            "public int CaseNet.verdict()"));

    public static void main(String[] args) {
        Checks checks = new Checks();
        checks.about("the face");
        faceIsTheDocuments(checks);
        noNameOfTheFaceStandsTwice(checks);
        callsMakeNoObjects(checks);
        checks.endProgram();
    }

    private static Stream<Member> members() {
        Class<?> face = CaseNet.class;
        return Stream.of(face.getDeclaredFields(), face.getDeclaredConstructors(), face.getDeclaredMethods())
                .flatMap(Arrays::stream).map(Member.class::cast).filter(member -> !member.isSynthetic());
    }

    private static void faceIsTheDocuments(Checks checks) {
        Set<String> seen = members().filter(member -> !Modifier.isPrivate(member.getModifiers()))
                .map(Object::toString).collect(Collectors.toCollection(TreeSet::new));
        checks.due("is the document's: " + seen, true, seen.equals(FACE));
        checks.due("is final", true, Modifier.isFinal(CaseNet.class.getModifiers()));
        checks.due("BAD", -1, CaseNet.BAD);
        checks.due("NOT_SO", -2, CaseNet.NOT_SO);
        checks.due("FULL", -3, CaseNet.FULL);
    }

    private static void noNameOfTheFaceStandsTwice(Checks checks) {
        long names = Arrays.stream(CaseNet.class.getDeclaredMethods())
                .filter(method -> Modifier.isPublic(method.getModifiers()))
                .map(Member::getName).distinct().count();
        checks.due("number of public methods", 18, names);
        for (var method : CaseNet.class.getDeclaredMethods()) {
            boolean shared = Arrays.stream(CaseNet.class.getMethods())
                    .anyMatch(other -> other.getDeclaringClass() == CaseNet.class
                            && other.getName().equals(method.getName()));
            checks.due("a private method bears a public name: " + method.getName(), false,
                    shared && !Modifier.isPublic(method.getModifiers()));
        }
    }

    /** The dearest calls, as often as an object may be used, must not make as much as a small object each. */
    private static void callsMakeNoObjects(Checks checks) {
        var threads = (com.sun.management.ThreadMXBean) ManagementFactory.getThreadMXBean();
        CaseNet net = new CaseNet();
        for (int t = 0; t < 5; t++) {
            net.task(t, 1, 2, 0b10000101, 0b11100 << t & 0b11111110);
        }
        net.task(5, 2, 0, 0b11100000, 0b10);
        net.launch();
        int answers = net.enabled() + net.verdict();
        long before = threads.getThreadAllocatedBytes(Thread.currentThread().getId());
        for (int from = 0; from < 125; from++) {
            answers += net.enabled() + net.covers(from, 0b11101000, -1) + net.verdict() + net.tick(1);
        }
        long made = threads.getThreadAllocatedBytes(Thread.currentThread().getId()) - before;
        checks.due("bytes made by 500 calls: " + made + " with answers " + answers, true, made < 500 * 8);
    }
}
