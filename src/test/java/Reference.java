import java.util.ArrayList;
import java.util.Arrays;
import java.util.HashMap;
import java.util.LinkedHashSet;
import java.util.List;
import java.util.Map;
import java.util.NoSuchElementException;
import java.util.Set;

/**
 * The document said a second time, with lists, and all asked anew each time: ways are compared whole, by their cost
 * and then by the row of their steps; scores by all readings of all lost ones.
 */
final class Reference {
    private final int[] normals = new int[100];
    private final List<List<Integer>> written = new ArrayList<>();
    private final List<List<Integer>> corrections = new ArrayList<>();
    private final List<Boolean> corrected = new ArrayList<>();
    private final Map<Integer, Integer> chosen = new HashMap<>();
    private final List<Integer> losts = new ArrayList<>();
    private final Map<Integer, List<Integer>> parents = new HashMap<>();
    private int base = 0;
    private int line = 5;

    /** A way of putting a text to columns: p puts a word, q passes a column by, r makes a new column. */
    private record Way(int cost, String steps) {
        boolean isBetterThan(Way other) {
            return cost < other.cost || cost == other.cost && steps.compareTo(other.steps) < 0;
        }
    }

    private record Solution(int score, int[] numbers) {
    }

    Reference() {
        for (int word = 0; word < 100; word++) {
            normals[word] = word;
        }
    }

    private static void word(int word) {
        if (word < 1 || word > 99) {
            throw new IllegalArgumentException();
        }
    }

    private void witness(int witness) {
        if (witness < 0 || witness >= written.size()) {
            throw new IndexOutOfBoundsException();
        }
    }

    private void column(int column) {
        if (column < 0 || column >= table().size()) {
            throw new IndexOutOfBoundsException();
        }
    }

    int setNormal(int word, int normal) {
        word(word);
        word(normal);
        int before = normals[word];
        normals[word] = normal;
        chosen.clear();
        return before;
    }

    int addWitness() {
        if (written.size() == 6) {
            throw new IllegalStateException();
        }
        written.add(new ArrayList<>());
        corrections.add(new ArrayList<>());
        corrected.add(false);
        chosen.clear();
        return written.size() - 1;
    }

    int addWord(int witness, int word) {
        witness(witness);
        word(word);
        if (written.get(witness).size() == 8) {
            throw new IllegalStateException();
        }
        written.get(witness).add(word);
        corrections.get(witness).add(-1);
        chosen.clear();
        return written.get(witness).size();
    }

    int correct(int witness, int place, int word) {
        witness(witness);
        if (place < 0 || place >= written.get(witness).size()) {
            throw new IndexOutOfBoundsException();
        }
        if (word < -1 || word > 99) {
            throw new IllegalArgumentException();
        }
        chosen.clear();
        return corrections.get(witness).set(place, word);
    }

    boolean use(int witness, boolean isCorrected) {
        witness(witness);
        chosen.clear();
        return corrected.set(witness, isCorrected);
    }

    private List<Integer> text(int witness) {
        List<Integer> text = new ArrayList<>();
        for (int place = 0; place < written.get(witness).size(); place++) {
            int correction = corrections.get(witness).get(place);
            int word = corrected.get(witness) && correction >= 0 ? correction : written.get(witness).get(place);
            if (word > 0) {
                text.add(word);
            }
        }
        return text;
    }

    int length(int witness) {
        witness(witness);
        return text(witness).size();
    }

    int wordAt(int witness, int index) {
        witness(witness);
        if (index < 0 || index >= text(witness).size()) {
            throw new NoSuchElementException();
        }
        return text(witness).get(index);
    }

    private int putCost(int[] column, int word) {
        int least = 3;
        for (int other : column) {
            if (other == word) {
                least = 0;
            } else if (other != 0 && normals[other] == normals[word]) {
                least = Math.min(least, 1);
            }
        }
        return least;
    }

    private Way bestWay(List<int[]> columns, List<Integer> text, int column, int index, Way[][] known) {
        if (column == columns.size() && index == text.size()) {
            return new Way(0, "");
        }
        if (known[column][index] != null) {
            return known[column][index];
        }
        List<Way> ways = new ArrayList<>();
        if (column < columns.size() && index < text.size()) {
            Way rest = bestWay(columns, text, column + 1, index + 1, known);
            ways.add(new Way(rest.cost + putCost(columns.get(column), text.get(index)), "p" + rest.steps));
        }
        if (column < columns.size()) {
            Way rest = bestWay(columns, text, column + 1, index, known);
            ways.add(new Way(rest.cost + 2, "q" + rest.steps));
        }
        if (index < text.size()) {
            Way rest = bestWay(columns, text, column, index + 1, known);
            ways.add(new Way(rest.cost + 2, "r" + rest.steps));
        }
        Way best = ways.get(0);
        for (Way way : ways) {
            best = way.isBetterThan(best) ? way : best;
        }
        known[column][index] = best;
        return best;
    }

    private Way bestWay(List<int[]> columns, List<Integer> text) {
        return bestWay(columns, text, 0, 0, new Way[columns.size() + 1][text.size() + 1]);
    }

    private static List<int[]> columnsOf(List<Integer> text) {
        List<int[]> columns = new ArrayList<>();
        for (int word : text) {
            columns.add(new int[] {word, 0, 0, 0, 0, 0});
        }
        return columns;
    }

    private List<int[]> table() {
        if (written.isEmpty()) {
            return new ArrayList<>();
        }
        List<int[]> columns = columnsOf(text(0));
        for (int witness = 1; witness < written.size(); witness++) {
            List<Integer> text = text(witness);
            int column = 0;
            int index = 0;
            for (char step : bestWay(columns, text).steps.toCharArray()) {
                if (step == 'r') {
                    columns.add(column, new int[6]);
                }
                if (step != 'q') {
                    columns.get(column)[witness] = text.get(index);
                    index++;
                }
                column++;
            }
        }
        return columns;
    }

    int distance(int first, int second) {
        witness(first);
        witness(second);
        return bestWay(columnsOf(text(first)), text(second)).cost;
    }

    int columns() {
        return table().size();
    }

    int at(int column, int witness) {
        column(column);
        witness(witness);
        return table().get(column)[witness];
    }

    private List<Integer> readingsOf(int[] column) {
        Set<Integer> forms = new LinkedHashSet<>();
        for (int witness = 0; witness < written.size(); witness++) {
            forms.add(normals[column[witness]]);
        }
        return new ArrayList<>(forms);
    }

    int readings(int column) {
        column(column);
        return readingsOf(table().get(column)).size();
    }

    int readingOf(int column, int witness) {
        column(column);
        witness(witness);
        int[] cells = table().get(column);
        return readingsOf(cells).indexOf(normals[cells[witness]]);
    }

    int reading(int column, int reading) {
        column(column);
        List<Integer> forms = readingsOf(table().get(column));
        if (reading < 0 || reading >= forms.size()) {
            throw new NoSuchElementException();
        }
        return forms.get(reading);
    }

    private List<Integer> notes() {
        List<Integer> notes = new ArrayList<>();
        List<int[]> columns = table();
        for (int column = 0; column < columns.size(); column++) {
            if (readingsOf(columns.get(column)).size() > 1) {
                notes.add(column);
            }
        }
        return notes;
    }

    int variants() {
        return notes().size();
    }

    int setBase(int witness) {
        witness(witness);
        int before = base;
        base = witness;
        chosen.clear();
        return before;
    }

    int noteColumn(int index) {
        List<Integer> notes = notes();
        if (index < 0 || index >= notes.size()) {
            throw new IndexOutOfBoundsException();
        }
        return notes.get(index);
    }

    int noteSize(int index) {
        int[] cells = table().get(noteColumn(index));
        int size = 0;
        for (int witness = 0; witness < written.size(); witness++) {
            size += normals[cells[witness]] == normals[cells[base]] ? 0 : 1;
        }
        return size;
    }

    int readBack(int witness, int index) {
        return normals[wordAt(witness, index)];
    }

    private int edited(int column) {
        return chosen.containsKey(column) ? chosen.get(column) : readingOf(column, base);
    }

    int choose(int column, int reading) {
        reading(column, reading);
        int before = edited(column);
        chosen.put(column, reading);
        return before;
    }

    int setLine(int length) {
        if (length < 1 || length > 9) {
            throw new IllegalArgumentException();
        }
        int before = line;
        line = length;
        return before;
    }

    private List<Integer> editedColumns() {
        List<Integer> columns = new ArrayList<>();
        for (int column = 0; column < columns(); column++) {
            if (reading(column, edited(column)) != 0) {
                columns.add(column);
            }
        }
        return columns;
    }

    int editionLength() {
        return editedColumns().size();
    }

    int lineOf(int column) {
        column(column);
        int index = editedColumns().indexOf(column);
        return index < 0 ? -1 : index / line;
    }

    int addLost() {
        if (losts.size() == 3) {
            throw new IllegalStateException();
        }
        losts.add(6 + losts.size());
        return 5 + losts.size();
    }

    private boolean isOne(int one) {
        return one >= 0 && one < written.size() || losts.contains(one);
    }

    private List<Integer> parentsOf(int one) {
        return parents.getOrDefault(one, List.of());
    }

    private boolean isAbove(int above, int one) {
        if (above == one) {
            return true;
        }
        for (int parent : parentsOf(one)) {
            if (isAbove(above, parent)) {
                return true;
            }
        }
        return false;
    }

    int setParents(int child, int first, int second) {
        if (!isOne(child) || first != -1 && !isOne(first) || second != -1 && !isOne(second)) {
            throw new IndexOutOfBoundsException();
        }
        if (second != -1 && (first == -1 || first == second)) {
            throw new IllegalArgumentException();
        }
        List<Integer> told = new ArrayList<>();
        for (int parent : new int[] {first, second}) {
            if (parent != -1) {
                told.add(parent);
            }
        }
        for (int parent : told) {
            if (isAbove(child, parent)) {
                throw new UnsupportedOperationException();
            }
        }
        int before = parentsOf(child).size();
        parents.put(child, told);
        return before;
    }

    private int unexplained(int[] numbers) {
        int count = 0;
        for (int one = 0; one < 9; one++) {
            boolean isExplained = parentsOf(one).isEmpty();
            for (int parent : parentsOf(one)) {
                isExplained |= numbers[one] == numbers[parent];
            }
            count += isExplained ? 0 : 1;
        }
        return count;
    }

    /** All ways for the lost ones from one on, in the order of their numbers; the first of the best stands. */
    private Solution solve(int[] numbers, int lost, int readings) {
        if (lost == 6 + losts.size()) {
            return new Solution(unexplained(numbers), numbers.clone());
        }
        Solution best = null;
        for (int number = 0; number < readings; number++) {
            numbers[lost] = number;
            Solution next = solve(numbers, lost + 1, readings);
            best = best == null || next.score < best.score ? next : best;
        }
        return best;
    }

    private Solution solve(int column) {
        column(column);
        int[] numbers = new int[9];
        Arrays.fill(numbers, -1);
        for (int witness = 0; witness < written.size(); witness++) {
            numbers[witness] = readingOf(column, witness);
        }
        return solve(numbers, 6, readings(column));
    }

    int score(int column) {
        return solve(column).score;
    }

    int scoreAnew(int column) {
        return solve(column).score;
    }

    int thought(int column, int lost) {
        column(column);
        if (!losts.contains(lost)) {
            throw new IndexOutOfBoundsException();
        }
        return solve(column).numbers[lost];
    }

    private boolean hangTogether(int[] numbers, int reading) {
        List<Integer> members = new ArrayList<>();
        for (int one = 0; one < 9; one++) {
            if (isOne(one) && numbers[one] == reading) {
                members.add(one);
            }
        }
        if (members.isEmpty()) {
            return true;
        }
        List<Integer> reached = new ArrayList<>();
        reached.add(members.get(0));
        for (int index = 0; index < reached.size(); index++) {
            for (int other : members) {
                boolean isNear = parentsOf(other).contains(reached.get(index))
                    || parentsOf(reached.get(index)).contains(other);
                if (isNear && !reached.contains(other)) {
                    reached.add(other);
                }
            }
        }
        return reached.size() == members.size();
    }

    boolean isCoherent(int column) {
        int[] numbers = solve(column).numbers;
        boolean isCoherent = true;
        for (int reading = 0; reading < readings(column); reading++) {
            isCoherent &= hangTogether(numbers, reading);
        }
        return isCoherent;
    }

    int find(int first, int second) {
        word(first);
        word(second);
        Set<List<Integer>> pairs = new LinkedHashSet<>();
        List<int[]> columns = table();
        for (int witness = 0; witness < written.size(); witness++) {
            int last = -1;
            for (int column = 0; column < columns.size(); column++) {
                int word = columns.get(column)[witness];
                if (word == 0) {
                    continue;
                }
                if (last >= 0 && normals[columns.get(last)[witness]] == first && normals[word] == second) {
                    pairs.add(List.of(last, column));
                }
                last = column;
            }
        }
        return pairs.size();
    }

    long total() {
        long sum = 0;
        for (int column = 0; column < columns(); column++) {
            sum += score(column);
        }
        return sum;
    }

    float variantShare() {
        if (columns() == 0) {
            throw new ArithmeticException();
        }
        return (float) variants() / (float) columns();
    }

    double meanDistance() {
        if (written.size() < 2) {
            throw new ArithmeticException();
        }
        int sum = 0;
        int pairs = 0;
        for (int first = 0; first < written.size(); first++) {
            for (int second = 0; second < written.size(); second++) {
                if (first != second) {
                    sum += distance(first, second);
                    pairs++;
                }
            }
        }
        return (double) sum / (double) pairs;
    }

    boolean isSound() {
        return true;
    }
}
