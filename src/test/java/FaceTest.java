import java.lang.reflect.Constructor;
import java.lang.reflect.Field;
import java.lang.reflect.Method;
import java.lang.reflect.Modifier;
import java.util.Arrays;
import java.util.TreeSet;

/** The public face, and that nothing beside it can be seen from outside. */
public final class FaceTest {
    private static final String[] FACE = {
        "public static final int WeightedTrees.NONE",
        "public WeightedTrees()",
        "public boolean WeightedTrees.put(int,long)",
        "public void WeightedTrees.scrap()",
        "public int WeightedTrees.load()"
                + " throws java.lang.IllegalArgumentException,java.lang.IllegalStateException",
        "public int WeightedTrees.wrong()",
        "public boolean WeightedTrees.parse()"
                + " throws java.lang.IllegalArgumentException,java.lang.IllegalStateException",
        "public int WeightedTrees.count(int)",
        "public int WeightedTrees.name(int) throws java.lang.IndexOutOfBoundsException",
        "public long WeightedTrees.weight(int) throws java.lang.IndexOutOfBoundsException",
        "public long WeightedTrees.empty(int) throws java.lang.IndexOutOfBoundsException",
        "public long WeightedTrees.unit(int,int) throws java.lang.IndexOutOfBoundsException",
        "public long WeightedTrees.inside(int,int,int)"
                + " throws java.lang.IndexOutOfBoundsException,java.lang.IllegalArgumentException",
        "public int WeightedTrees.cheapest(int,int,int)"
                + " throws java.lang.IndexOutOfBoundsException,java.lang.IllegalArgumentException",
        "public int WeightedTrees.build(int,int,int)"
                + " throws java.lang.IndexOutOfBoundsException,java.lang.IllegalArgumentException,"
                + "java.lang.IllegalStateException",
        "public int WeightedTrees.node(int,int) throws java.lang.IndexOutOfBoundsException",
    };

    public static void main(String[] args) {
        Check check = new Check();
        check.due("the face", new TreeSet<>(Arrays.asList(FACE)), FaceTest::visible);
        check.due("the class is public and final", Modifier.PUBLIC | Modifier.FINAL,
                () -> WeightedTrees.class.getModifiers());
        check.due("NONE", -1, () -> WeightedTrees.NONE);
        for (Class<?> inner : WeightedTrees.class.getDeclaredClasses()) {
            check.due(inner + " is static, and not public or protected", Modifier.STATIC,
                    () -> inner.getModifiers()
                            & (Modifier.STATIC | Modifier.PUBLIC | Modifier.PROTECTED));
        }
        check.end();
    }

    private static Object visible() {
        TreeSet<String> members = new TreeSet<>();
        for (Field field : WeightedTrees.class.getDeclaredFields()) {
            if (!Modifier.isPrivate(field.getModifiers())) {
                members.add(field.toString());
            }
        }
        for (Constructor<?> constructor : WeightedTrees.class.getDeclaredConstructors()) {
            if (!Modifier.isPrivate(constructor.getModifiers())) {
                members.add(constructor.toString());
            }
        }
        for (Method method : WeightedTrees.class.getDeclaredMethods()) {
            if (!Modifier.isPrivate(method.getModifiers())) {
                members.add(method.toString());
            }
        }
        return members;
    }
}
