import java.lang.reflect.Constructor;
import java.lang.reflect.Field;
import java.lang.reflect.Method;
import java.lang.reflect.Modifier;
import java.nio.file.Files;
import java.nio.file.Path;
import java.util.ArrayList;
import java.util.Collections;
import java.util.HashSet;
import java.util.List;
import java.util.Set;
import java.util.regex.Matcher;
import java.util.regex.Pattern;

/** The face is the document's, member by member, and nothing else shows (rule 1 of LANGUAGE.md; LanguageTest has the others). */
public final class FaceTest {
    public static void main(String[] args) throws Exception {
        faceIsTheDocuments();
        nothingElseShows();
        Due.due("NONE", IcicleClock.NONE, -1);
        Due.due("the class is final", Modifier.isFinal(IcicleClock.class.getModifiers()) ? 1 : 0, 1);
        Due.finish();
    }

    private static void faceIsTheDocuments() throws Exception {
        String document = Files.readString(Path.of("../shared/DOC.md"));
        String face = document.substring(document.indexOf("```java"), document.indexOf("## Terms"));
        Matcher line = Pattern.compile("public (int|long) (\\w+)\\(([^)]*)\\);").matcher(face);
        List<String> asked = new ArrayList<>();
        while (line.find()) {
            StringBuilder shape = new StringBuilder(line.group(1) + " " + line.group(2) + ":");
            for (String parameter : line.group(3).split(",")) {
                if (!parameter.isBlank()) {
                    shape.append(parameter.trim().split(" ")[0]).append(' ');
                }
            }
            asked.add(shape.toString());
        }
        List<String> has = new ArrayList<>();
        for (Method method : IcicleClock.class.getDeclaredMethods()) {
            if (Modifier.isPublic(method.getModifiers())) {
                StringBuilder shape = new StringBuilder(method.getReturnType() + " " + method.getName() + ":");
                for (Class<?> type : method.getParameterTypes()) {
                    shape.append(type.getName()).append(' ');
                }
                has.add(shape.toString());
            }
        }
        Collections.sort(asked);
        Collections.sort(has);
        if (!asked.equals(has)) {
            System.out.println("asked " + asked + "\nhas " + has);
        }
        Due.due("methods are the document's", asked.equals(has) ? 1 : 0, 1);
        Due.due("how many methods", has.size(), 63);
        promisesAreOfTheFace(document, face);
    }

    /** Promise k is headed by member k of the face: the constructor, then the methods in their order. */
    private static void promisesAreOfTheFace(String document, String face) {
        List<String> members = new ArrayList<>();
        Matcher member = Pattern.compile("public ((?:int |long )?\\w+\\([^)]*\\));").matcher(face);
        while (member.find()) {
            members.add(member.group(1));
        }
        Due.due("how many promises", document.split("\n## Promise ").length - 1, members.size());
        for (int k = 1; k <= members.size(); k++) {
            boolean heads = Due.promiseText(k).contains("\n`" + members.get(k - 1) + "`: ");
            Due.due("promise " + k + " is of " + members.get(k - 1), heads ? 1 : 0, 1);
        }
    }

    private static void nothingElseShows() {
        Set<String> shown = new HashSet<>();
        for (Method method : IcicleClock.class.getDeclaredMethods()) {
            if (Modifier.isPublic(method.getModifiers())) {
                shown.add(method.getName());
            } else {
                Due.due("private: " + method.getName(), Modifier.isPrivate(method.getModifiers()) ? 1 : 0, 1);
            }
        }
        for (Field field : IcicleClock.class.getDeclaredFields()) {
            boolean none = field.getName().equals("NONE");
            Due.due("private: " + field.getName(), none || Modifier.isPrivate(field.getModifiers()) ? 1 : 0, 1);
            boolean still = !Modifier.isStatic(field.getModifiers()) || Modifier.isFinal(field.getModifiers());
            Due.due("static only if final: " + field.getName(), still ? 1 : 0, 1);
        }
        Constructor<?>[] makers = IcicleClock.class.getDeclaredConstructors();
        Due.due("one constructor", makers.length, 1);
        Class<?>[] inside = IcicleClock.class.getDeclaredClasses();
        Due.due("some twelve classes", inside.length + 1 <= 12 ? 1 : 0, 1);
        for (Class<?> own : inside) {
            Due.due("static: " + own.getName(), Modifier.isStatic(own.getModifiers()) ? 1 : 0, 1);
            int fields = 0;
            for (Field field : own.getDeclaredFields()) {
                fields += Modifier.isStatic(field.getModifiers()) ? 0 : 1;
            }
            Due.due("some twenty fields: " + own.getName(), fields <= 20 ? 1 : 0, 1);
            for (Method method : own.getDeclaredMethods()) {
                Due.due("no public name again: " + method.getName(), shown.contains(method.getName()) ? 1 : 0, 0);
                Due.due("seven parameters: " + method.getName(), method.getParameterCount() <= 7 ? 1 : 0, 1);
            }
        }
    }
}
