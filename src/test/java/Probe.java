import java.util.ArrayList;
import java.util.List;

/**
 * What calls can tell of an object, its hidden numbers (versions, papers, duties taken down, the count
 * of those that came, the sample) too. What asks for a hidden number changes the object, so each such
 * row of calls has an object of its own, which is made anew in the same way.
 */
final class Probe {
    interface Maker {
        Calls.Target make();
    }

    private static final class Question {
        final String name;
        final int[] args;

        Question(String name, int... args) {
            this.name = name;
            this.args = args;
        }
    }

    private static final List<Question> QUESTIONS = allQuestions();

    /** A seal that no consignment of the scenes has. */
    private static final int OTHER_SEAL = 999;

    private final Maker maker;
    private final List<String> told = new ArrayList<>();
    private Calls.Target target;

    private Probe(Maker maker) {
        this.maker = maker;
    }

    /** What can be asked without changing anything, in the order of QUESTIONS. */
    static List<Object> questions(Calls.Target target) {
        List<Object> answers = new ArrayList<>();
        for (Question each : QUESTIONS) {
            answers.add(target.call(each.name, each.args));
        }
        return answers;
    }

    /** "the same", or the first question that is answered in two ways. */
    static String difference(List<Object> some, List<Object> others) {
        for (int k = 0; k < QUESTIONS.size(); k++) {
            if (!some.get(k).equals(others.get(k))) {
                Question each = QUESTIONS.get(k);
                return Calls.told(each.name, each.args) + " " + some.get(k) + " and " + others.get(k);
            }
        }
        return "the same";
    }

    /** "the same", or the first row of two lists that all() made in which they differ. */
    static String differenceOfAll(List<String> some, List<String> others) {
        String part = "";
        for (int k = 0; k < some.size() && k < others.size(); k++) {
            part = some.get(k).startsWith("--") ? some.get(k) : part;
            if (!some.get(k).equals(others.get(k))) {
                return part + ": " + some.get(k) + " and " + others.get(k);
            }
        }
        return some.size() == others.size() ? "the same" : "one is longer";
    }

    private static List<Question> allQuestions() {
        List<Question> all = new ArrayList<>();
        for (int consignment = 0; consignment < 15; consignment++) {
            all.add(new Question("state", consignment));
            all.add(new Question("risk", consignment));
            all.add(new Question("mustSearch", consignment));
            for (int sort = 0; sort < 6; sort++) {
                all.add(new Question("manifest", consignment, sort));
            }
        }
        for (int sort = 0; sort < 6; sort++) {
            for (int store = 0; store < 3; store++) {
                all.add(new Question("stored", sort, store));
            }
        }
        for (int trader = 0; trader < 4; trader++) {
            all.add(new Question("held", trader));
            all.add(new Question("paid", trader));
        }
        return all;
    }

    /** All that can be found out, as a list of calls with their answers. */
    static List<String> all(Maker maker) {
        Probe probe = new Probe(maker);
        probe.told.add("asked: " + questions(maker.make()));
        probe.guarantees();
        probe.announced();
        probe.countOfArrivals();
        for (int sort = 0; sort < 6; sort++) {
            probe.rulesOfSort(sort);
        }
        for (int consignment = 0; consignment < 15; consignment++) {
            if (!Model.INDEX.equals(maker.make().call("state", consignment))) {
                probe.ofConsignment(consignment);
            }
        }
        return probe.told;
    }

    private Object ask(String name, int... args) {
        Object answer = target.call(name, args);
        told.add(Calls.told(name, args) + " " + answer);
        return answer;
    }

    private void begin(String what) {
        target = maker.make();
        told.add("-- " + what);
    }

    private void guarantees() {
        begin("guarantees");
        for (int trader = 0; trader < 4; trader++) {
            ask("setGuarantee", trader, 1000000);
            ask("setGuarantee", trader, 0);
        }
    }

    private void announced() {
        begin("announced");
        for (int k = 0; k < 16; k++) {
            ask("announce", 3, OTHER_SEAL);
        }
    }

    /**
     * With all weights 0 and its seal whole, one that comes has to be searched only if it is a sample:
     * first with the sample that is set, then with every other one, so that the count itself is told.
     */
    private void countOfArrivals() {
        begin("sample");
        bringTheRest();
        for (int sample = 2; sample <= 10; sample++) {
            begin("count of arrivals by sample " + sample);
            ask("setRisk", 200, sample);
            bringTheRest();
        }
    }

    private void bringTheRest() {
        for (int sort = 0; sort < 6; sort++) {
            ask("setSort", sort, 0, 0);
        }
        for (int k = 0; k < 15; k++) {
            Object number = ask("announce", 3, OTHER_SEAL);
            if (number instanceof Integer) {
                ask("amend", (Integer) number, 0, 1);
                ask("arrive", (Integer) number, OTHER_SEAL);
            }
        }
        for (int number = 0; number < 15; number++) {
            ask("arrive", number, 100 + number);
        }
    }

    private void rulesOfSort(int sort) {
        begin("rules of sort " + sort);
        Object number = ask("announce", 3, OTHER_SEAL);
        if (number instanceof Integer) {
            ask("amend", (Integer) number, sort, 1);
            ask("arrive", (Integer) number, OTHER_SEAL);
            bondOneUnitOf((Integer) number, sort);
        }
    }

    private void bondOneUnitOf(int consignment, int sort) {
        for (int each = 0; each < 6; each++) {
            ask("search", consignment, each, each == sort ? 1 : 0);
        }
        ask("risk", consignment);
        bondWithAnyGuarantee(consignment);
    }

    private void bondWithAnyGuarantee(int consignment) {
        for (int trader = 0; trader < 4; trader++) {
            ask("setGuarantee", trader, 1000000);
        }
        ask("bond", consignment, 2);
        for (int trader = 0; trader < 4; trader++) {
            ask("held", trader);
        }
    }

    private void ofConsignment(int consignment) {
        arriving(consignment);
        version(consignment);
        papers(consignment);
        mark(consignment);
        isSample(consignment);
        for (int sort = 0; sort < 6; sort++) {
            begin("rules of sort " + sort + " by " + consignment);
            bondOneUnitOf(consignment, sort);
            wasSearched(consignment, sort);
        }
        leaving(consignment);
    }

    /** The scenes give the seal 100 + its number to each consignment. */
    private void arriving(int consignment) {
        begin("seal of " + consignment);
        ask("amend", consignment, 5, 77);
        ask("arrive", consignment, 100 + consignment);
        ask("risk", consignment);
    }

    private void version(int consignment) {
        begin("version of " + consignment);
        ask("amend", consignment, 0, 88);
    }

    private void papers(int consignment) {
        begin("papers of " + consignment);
        ask("search", consignment, 0, 88);
    }

    private void mark(int consignment) {
        begin("mark by " + consignment);
        for (int sum = 0; sum <= 120; sum++) {
            ask("setSort", sum / 20 % 6, 1, sum % 20 + 1);
            ask("mustSearch", consignment);
        }
    }

    private void isSample(int consignment) {
        begin("sample " + consignment);
        ask("setRisk", 200, 0);
        ask("mustSearch", consignment);
    }

    /** If all others are searched, it has to be searched still only if this sort was not. */
    private void wasSearched(int consignment, int sort) {
        begin("sort " + sort + " searched of " + consignment);
        ask("setRisk", 0, 0);
        for (int each = 0; each < 6; each++) {
            if (each != sort) {
                ask("search", consignment, each, 1);
            }
        }
        ask("mustSearch", consignment);
    }

    private void leaving(int consignment) {
        begin("goods and duties of " + consignment);
        for (int sort = 0; sort < 6; sort++) {
            for (int store = 0; store < 3; store++) {
                ask("free", consignment, sort, store, 1);
                ask("move", consignment, sort, store, (store + 1) % 3, 1);
                ask("sendBack", consignment, sort, (store + 1) % 3, 1);
                ask("state", consignment);
            }
        }
    }
}
