import java.io.IOException;
import java.lang.reflect.Field;
import java.lang.reflect.Method;
import java.lang.reflect.Modifier;
import java.nio.charset.StandardCharsets;
import java.nio.file.Files;
import java.nio.file.Path;
import java.util.Set;
import java.util.TreeSet;
import java.util.regex.Matcher;
import java.util.regex.Pattern;

/** The rules of LANGUAGE.md that can be seen from the text of the program, or from its classes. */
public final class LanguageTest {
  private static final Path PROGRAM = Path.of("src/main/java/Whichbox.java");

  private static final Set<String> EXCEPTIONS = Set.of("IllegalStateException", "IllegalArgumentException",
      "IndexOutOfBoundsException", "ArithmeticException", "UnsupportedOperationException",
      "NoSuchElementException", "RuntimeException");
  private static final Set<String> LIBRARY = Set.of("String", "StringBuilder", "Integer", "Long", "Math", "ArrayList",
      "List", "Iterator", "Iterable", "Comparable", "System", "Arrays");
  private static final Set<String> STATIC_TYPES = Set.of("int", "long", "boolean", "char", "String", "int[]", "long[]",
      "char[]", "byte[]");

  // The program needs neither try nor instanceof, so that none of their rules can be broken.
  private static final String[] NO_WORDS = {"package", "import", "try", "catch", "finally", "synchronized", "assert",
      "instanceof", "native", "volatile", "transient", "strictfp", "protected", "var", "yield", "equals", "hashCode",
      "toString", "currentTimeMillis", "nanoTime", "random", "getClass", "super"};
  private static final String[] NO_SIGNS = {"->", "::", "@", "\\u"};

  public static void main(String[] args) throws IOException {
    String text = Files.readString(PROGRAM, StandardCharsets.ISO_8859_1);
    String code = withoutCommentsAndTexts(text);
    signs(text);
    wordsThatAreNotAllowed(code);
    namesOfClasses(code);
    exceptions(text, code);
    staticFields(Whichbox.class);
    classesInside();
    methods(code);
    Check.end();
  }

  /** The same text with blanks for what stands in comments and in constants, line by line. */
  private static String withoutCommentsAndTexts(String text) {
    String comments = "/\\*.*?\\*/|//[^\n]*";
    String constants = "\"(?:\\\\.|[^\"\\\\])*\"|'(?:\\\\.|[^'\\\\])+'";
    Matcher each = Pattern.compile(comments + "|" + constants, Pattern.DOTALL).matcher(text);
    return each.replaceAll(found -> found.group().replaceAll("[^\n]", " "));
  }

  private static void signs(String text) {
    for (int place = 0; place < text.length(); place++) {
      char sign = text.charAt(place);
      if (sign != '\n' && (sign < ' ' || sign > '~')) {
        Check.due("the sign at " + place, sign, ' ');
      }
    }
  }

  private static void wordsThatAreNotAllowed(String code) {
    for (String word : NO_WORDS) {
      Check.due("the word " + word, Pattern.compile("\\b" + word + "\\b").matcher(code).find(), false);
    }
    for (String sign : NO_SIGNS) {
      Check.due("the sign " + sign, code.contains(sign), false);
    }
    Check.due("a static block", Pattern.compile("\\bstatic\\s*\\{").matcher(code).find(), false);
    Check.due("a function whose name ends in Exact", Pattern.compile("\\w+Exact\\b").matcher(code).find(), false);
  }

  /** Names with a great letter ahead and small ones behind are classes: own ones, or such as may be used. */
  private static void namesOfClasses(String code) {
    Set<String> allowed = new TreeSet<>(LIBRARY);
    allowed.addAll(EXCEPTIONS);
    allowed.add("Whichbox");
    for (Class<?> each : Whichbox.class.getDeclaredClasses()) {
      allowed.add(each.getSimpleName());
    }
    Matcher each = Pattern.compile("\\b[A-Z]\\w*[a-z]\\w*\\b").matcher(code);
    while (each.find()) {
      Check.due("the class " + each.group() + " may be used", allowed.contains(each.group()), true);
    }
  }

  private static void exceptions(String text, String code) {
    int words = count(Pattern.compile("\\bthrow\\b").matcher(code));
    Matcher each = Pattern.compile("\\bthrow new (\\w+)\\((?:\"[^\"]*\")?\\);").matcher(text);
    int throwsInForm = 0;
    while (each.find()) {
      throwsInForm++;
      Check.due("throw of " + each.group(1), EXCEPTIONS.contains(each.group(1)), true);
    }
    Check.due("throws in the form of rule 6", throwsInForm, words);
  }

  private static int count(Matcher found) {
    int count = 0;
    while (found.find()) {
      count++;
    }
    return count;
  }

  private static void staticFields(Class<?> looked) {
    for (Field each : looked.getDeclaredFields()) {
      if (Modifier.isStatic(each.getModifiers())) {
        String name = looked.getSimpleName() + "." + each.getName();
        Check.due(name + " is final", Modifier.isFinal(each.getModifiers()), true);
        Check.due(name + " is a constant", STATIC_TYPES.contains(each.getType().getSimpleName()), true);
      }
    }
    Check.due("fields of " + looked.getSimpleName() + " are some twenty", fieldsOf(looked) <= 20, true);
  }

  private static int fieldsOf(Class<?> looked) {
    int fields = 0;
    for (Field each : looked.getDeclaredFields()) {
      fields += Modifier.isStatic(each.getModifiers()) ? 0 : 1;
    }
    return fields;
  }

  private static void classesInside() {
    Class<?>[] inside = Whichbox.class.getDeclaredClasses();
    Check.due("the file has some twelve classes", inside.length < 12, true);
    for (Class<?> each : inside) {
      String name = each.getSimpleName();
      Check.due(name + " is public or protected",
          Modifier.isPublic(each.getModifiers()) || Modifier.isProtected(each.getModifiers()), false);
      Check.due(name + " is static", Modifier.isStatic(each.getModifiers()), true);
      Check.due("classes inside " + name, each.getDeclaredClasses().length, 0);
      staticFields(each);
    }
  }

  /** Methods and constructors: the header with its parameters, the body up to the brace that ends it. */
  private static void methods(String code) {
    String form = "\n    (?:    )?(?:\\w+(?:\\[\\])* )*(\\w+)\\(([^)]*)\\)[^;={}()]*\\{";
    Matcher header = Pattern.compile(form).matcher(code);
    int methods = 0;
    while (header.find()) {
      String name = header.group(1);
      if (Set.of("for", "if", "while", "switch").contains(name)) {
        continue;
      }
      String body = code.substring(header.end() - 1, endOfBody(code, header.end() - 1));
      Check.due("parameters of " + name + " are at most 7", header.group(2).split(",").length <= 7, true);
      Check.due("lines of " + name + " are some sixty", body.split("\n").length <= 60, true);
      boolean isConstructor = Character.isUpperCase(name.charAt(0));
      methods += isConstructor ? 0 : 1;
      Check.due("a throw in the constructor of " + name, isConstructor && body.contains("throw"), false);
    }
    Check.due("methods seen of all that were compiled", methods, methodsCompiled());
  }

  private static int endOfBody(String code, int start) {
    int open = 0;
    for (int place = start; place < code.length(); place++) {
      open += code.charAt(place) == '{' ? 1 : code.charAt(place) == '}' ? -1 : 0;
      if (open == 0) {
        return place;
      }
    }
    return code.length();
  }

  private static int methodsCompiled() {
    int methods = methodsOf(Whichbox.class);
    for (Class<?> each : Whichbox.class.getDeclaredClasses()) {
      methods += methodsOf(each);
    }
    return methods;
  }

  private static int methodsOf(Class<?> looked) {
    int methods = 0;
    for (Method each : looked.getDeclaredMethods()) {
      methods += each.isSynthetic() ? 0 : 1;
    }
    return methods;
  }
}
