import java.io.IOException;
import java.lang.reflect.Method;
import java.nio.file.Files;
import java.nio.file.Path;
import java.util.List;
import java.util.TreeSet;
import java.util.regex.Matcher;
import java.util.regex.Pattern;
import java.util.stream.Collectors;
import java.util.stream.Stream;

/** What README.md says is so: its example, its settings, and which tests there are. */
public final class ReadmeTest {
    private static final Path README = Path.of("README.md");
    private static final Path TESTS = Path.of("src/test/java");
    private static final Pattern TYPED = Pattern.compile("type\\(mail, \"(.*)\"\\);");
    private static final Pattern ASKED = Pattern.compile("mail\\.(\\w+)\\(([-0-9, ]*)\\); *// (-?\\d+): .*");
    private static final Pattern TEXT = Pattern.compile(".*// \\d+: signs, \"(.*)\"");
    private static final Pattern SETTING =
        Pattern.compile("\\| (\\d+) \\| .* \\| (\\d+) \\| (\\d+) \\| (\\d+) \\|");
    private static final Pattern QUOTED = Pattern.compile("`(\\w*Test|Check|Mail|Model|Tests)`");
    private static final Check check = new Check();

    public static void main(String[] args) {
        Tests.run(ReadmeTest.class, check);
    }

    private static List<String> readme() throws IOException {
        return Files.readAllLines(README);
    }

    private static void type(HouseholdMail mail, String text) {
        for (char sign : text.toCharArray()) {
            mail.append(sign);
        }
    }

    /** Makes the call that a line of the example tells, all of whose arguments are numbers. */
    private static int call(HouseholdMail mail, String name, String told) throws ReflectiveOperationException {
        String[] numbers = told.isEmpty() ? new String[0] : told.split(", ");
        Class<?>[] types = new Class<?>[numbers.length];
        Object[] values = new Object[numbers.length];
        for (int i = 0; i < numbers.length; i++) {
            types[i] = int.class;
            values[i] = Integer.valueOf(numbers[i]);
        }
        Method method = HouseholdMail.class.getMethod(name, types);
        return (Integer) method.invoke(mail, values);
    }

    private static void textIs(HouseholdMail mail, String due) {
        StringBuilder got = new StringBuilder();
        for (int place = 0; place < mail.letter(0, 3); place++) {
            got.append((char) mail.sign(0, place));
        }
        check.is("the text of the letter", got.toString(), due);
    }

    static void theExampleAnswersAsItSays() throws IOException, ReflectiveOperationException {
        List<String> lines = readme();
        HouseholdMail mail = new HouseholdMail();
        int asked = 0;
        int begin = lines.indexOf("HouseholdMail mail = new HouseholdMail();") + 1;
        for (int i = begin; i < lines.size() && !lines.get(i).equals("```"); i++) {
            Matcher typed = TYPED.matcher(lines.get(i));
            Matcher call = ASKED.matcher(lines.get(i));
            Matcher text = TEXT.matcher(lines.get(i));
            if (typed.matches()) {
                type(mail, typed.group(1));
            } else if (call.matches()) {
                asked++;
                check.is(lines.get(i), call(mail, call.group(1), call.group(2)), Integer.parseInt(call.group(3)));
            } else {
                check.report("a line of the example is not understood: " + lines.get(i));
            }
            if (text.matches()) {
                textIs(mail, text.group(1));
            }
        }
        check.is("some calls are asked", asked > 10 ? 1 : 0, 1);
    }

    static void theSettingsAreAsItSays() throws IOException {
        int number = 0;
        for (String line : readme()) {
            Matcher row = SETTING.matcher(line);
            if (row.matches()) {
                check.is("the number of a setting", Integer.parseInt(row.group(1)), number);
                int least = Integer.parseInt(row.group(2));
                int most = Integer.parseInt(row.group(3));
                settingIs(number, least, most, Integer.parseInt(row.group(4)));
                number++;
            }
        }
        check.is("settings", number, 6);
    }

    private static void settingIs(int setting, int least, int most, int first) {
        HouseholdMail mail = new HouseholdMail();
        check.refuses("below the least", Check.ARGUMENT, () -> mail.set(setting, least - 1));
        check.refuses("above the most", Check.ARGUMENT, () -> mail.set(setting, most + 1));
        check.is("setting " + setting + " at first", mail.set(setting, least), first);
        check.is("setting " + setting + ", least", mail.set(setting, most), least);
        check.is("setting " + setting + ", most", mail.setting(setting), most);
    }

    static void theTestsAreThoseThatItNames() throws IOException {
        TreeSet<String> named = new TreeSet<>();
        for (String line : readme()) {
            Matcher quoted = QUOTED.matcher(line);
            while (quoted.find()) {
                named.add(quoted.group(1));
            }
        }
        try (Stream<Path> files = Files.list(TESTS)) {
            String there = files.map(file -> file.getFileName().toString().replace(".java", "")).sorted()
                .collect(Collectors.joining(" "));
            check.is("the files of " + TESTS, there, String.join(" ", named));
        }
    }
}
