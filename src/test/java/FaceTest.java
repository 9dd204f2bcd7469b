import java.lang.reflect.Constructor;
import java.lang.reflect.Executable;
import java.lang.reflect.Field;
import java.lang.reflect.Method;
import java.lang.reflect.Modifier;
import java.nio.file.Files;
import java.nio.file.Path;
import java.util.ArrayList;
import java.util.List;
import java.util.Set;
import java.util.TreeSet;
import java.util.regex.Matcher;
import java.util.regex.Pattern;

/** The face is the one of the document, and nothing beside it can be seen (rule 1 of LANGUAGE.md). */
final class FaceTest {
    public static void main(String[] args) throws Exception {
        Set<String> due = faceOfDocument();
        Set<String> got = faceOfProgram();
        Check.isTrue("the document's face was not found", due.size() == 40);
        for (String member : due) {
            Check.isTrue("not there: " + member, got.contains(member));
        }
        for (String member : got) {
            Check.isTrue("not in the document: " + member, due.contains(member));
        }
        hidden();
        Check.end();
    }

    /** Each member as in the document, without the names of its parameters. */
    private static Set<String> faceOfDocument() throws Exception {
        Set<String> face = new TreeSet<>();
        String text = Files.readString(Path.of("../shared/DOC.md"));
        String block = text.substring(text.indexOf("public final class Palettehouse {"), text.indexOf("## Terms"));
        Matcher member = Pattern.compile("    public ([^(]*)\\(([^)]*)\\)([^;]*);").matcher(block);
        while (member.find()) {
            List<String> types = new ArrayList<>();
            for (String parameter : member.group(2).split(", ")) {
                types.add(parameter.split(" ")[0]);
            }
            String thrown = member.group(3).replace(" throws ", "").replace(" ", "");
            face.add(member.group(1) + "(" + String.join(",", types) + ")" + thrown);
        }
        return face;
    }

    private static Set<String> faceOfProgram() {
        Set<String> face = new TreeSet<>();
        for (Method method : Palettehouse.class.getDeclaredMethods()) {
            if (!Modifier.isPrivate(method.getModifiers()) && !method.isSynthetic()) {
                face.add(method.getReturnType() + " " + method.getName() + told(method));
            }
        }
        for (Constructor<?> constructor : Palettehouse.class.getDeclaredConstructors()) {
            if (!Modifier.isPrivate(constructor.getModifiers())) {
                face.add("Palettehouse" + told(constructor));
            }
        }
        return face;
    }

    private static String told(Executable member) {
        List<String> types = new ArrayList<>();
        for (Class<?> type : member.getParameterTypes()) {
            types.add(type.getSimpleName());
        }
        List<String> thrown = new ArrayList<>();
        for (Class<?> type : member.getExceptionTypes()) {
            thrown.add(type.getSimpleName());
        }
        return "(" + String.join(",", types) + ")" + String.join(",", thrown);
    }

    private static void hidden() {
        int modifiers = Palettehouse.class.getModifiers();
        Check.isTrue("the class is not public and final", Modifier.isPublic(modifiers) && Modifier.isFinal(modifiers));
        for (Field field : Palettehouse.class.getDeclaredFields()) {
            Check.isTrue("a field that can be seen: " + field, Modifier.isPrivate(field.getModifiers()));
        }
        Set<String> open = new TreeSet<>();
        for (Method method : Palettehouse.class.getDeclaredMethods()) {
            if (Modifier.isPublic(method.getModifiers())) {
                open.add(method.getName());
            }
        }
        for (Class<?> inside : Palettehouse.class.getDeclaredClasses()) {
            Check.isTrue("a class inside that is public", !Modifier.isPublic(inside.getModifiers()));
            for (Method method : inside.getDeclaredMethods()) {
                Check.isTrue("bears the name of a public one: " + method, !open.contains(method.getName()));
            }
        }
        for (Method method : Palettehouse.class.getDeclaredMethods()) {
            Check.isTrue("bears the name of a public one: " + method,
                    Modifier.isPublic(method.getModifiers()) || !open.contains(method.getName()));
        }
    }
}
