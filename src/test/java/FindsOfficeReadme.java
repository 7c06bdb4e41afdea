import java.lang.reflect.Method;
import java.lang.reflect.Modifier;
import java.nio.file.Files;
import java.nio.file.Path;
import java.util.ArrayList;
import java.util.List;
import java.util.regex.Matcher;
import java.util.regex.Pattern;

/** README.md names every call of the class, and its example answers what its comments say. */
public final class FindsOfficeReadme {
    private static final Pattern TOLD = Pattern.compile("\\boffice\\.(\\w+)\\(.*\\);\\s+// (-?\\w+)");

    private static int wrong = 0;

    public static void main(String[] args) throws Exception {
        String readme = Files.readString(Path.of("README.md"));
        namesEveryCall(readme);
        exampleHolds(readme);
        System.out.println(wrong == 0 ? "the README is as due" : wrong + " faults in the README");
        if (wrong != 0) {
            System.exit(1);
        }
    }

    private static void check(boolean good, String fault) {
        if (!good) {
            wrong++;
            System.out.println(fault);
        }
    }

    private static void namesEveryCall(String readme) {
        for (Method method : FindsOffice.class.getDeclaredMethods()) {
            if (Modifier.isPublic(method.getModifiers())) {
                check(readme.contains("`" + method.getName() + "("), "not named: " + method.getName());
            }
        }
        check(readme.contains(".ci/run"), "how to run the tests isn't told");
    }

    /** The answers in the README's comments, as call and answer, in their order. */
    private static List<String> toldIn(String readme) {
        List<String> told = new ArrayList<>();
        for (String line : readme.split("\n")) {
            Matcher matcher = TOLD.matcher(line);
            if (matcher.find()) {
                told.add(matcher.group(1) + " " + matcher.group(2));
            }
        }
        return told;
    }

    private static void exampleHolds(String readme) {
        FindsOffice office = new FindsOffice();
        List<String> answers = new ArrayList<>();
        answers.add("go " + office.go(3650));
        answers.add("law " + office.law(0, 300 * 1000000 + 100 * 1000 + 50, 2));
        answers.add("owner " + office.owner(11, 0, 5));
        int coin = office.find(100100, 209500050, 40004100, 364003);
        answers.add("find " + coin);
        answers.add("counts " + office.counts(coin));
        answers.add("sale " + office.sale(2, 100, 10, 500));
        answers.add("worth " + office.worth(coin));
        answers.add("share " + office.share(coin, 3));
        answers.add("settle " + office.settle(5));
        answers.add("place " + office.place(coin, 0));
        answers.add("museum " + office.museum(4, 5000));
        answers.add("offer " + office.offer(coin));
        check(answers.equals(toldIn(readme)), "the README tells " + toldIn(readme) + ", due is " + answers);
    }
}
