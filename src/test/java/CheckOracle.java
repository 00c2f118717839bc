import java.util.ArrayList;
import java.util.HashSet;
import java.util.List;
import java.util.Set;
import java.util.TreeMap;

/** CHECKING once more, with parts by their names. */
final class CheckOracle {
    private CheckOracle() {
    }

    /** Of each fault: its kind, its part, its number. */
    static int[][] faultsOf(TreeMap<String, byte[]> parts) {
        List<int[]> faults = new ArrayList<>();
        List<String> order = new ArrayList<>(parts.keySet());
        for (String name : order) {
            byte[] told = parts.get(name + ".rels");
            if (!tells(parts, name) && told != null) {
                faultsOfRelations(parts, order, order.indexOf(name), new MarkupOracle(told), faults);
            }
        }
        Set<String> reached = new HashSet<>();
        walk(parts, "root", reached);
        for (String name : order) {
            if (!tells(parts, name) && !reached.contains(name)) {
                faults.add(new int[] {4, order.indexOf(name), 0});
            }
        }
        return faults.toArray(new int[0][]);
    }

    private static void faultsOfRelations(TreeMap<String, byte[]> parts, List<String> order, int part, MarkupOracle markup,
        List<int[]> faults) {
        if (markup.fault >= 0) {
            faults.add(new int[] {1, part, markup.fault});
        }
        for (int k = 0; k < markup.ids.size(); k++) {
            if (markup.ids.subList(0, k).contains(markup.ids.get(k))) {
                faults.add(new int[] {2, part, k});
            }
            if (!order.contains(markup.tos.get(k))) {
                faults.add(new int[] {3, part, k});
            }
        }
    }

    private static boolean tells(TreeMap<String, byte[]> parts, String name) {
        return name.endsWith(".rels") && parts.containsKey(name.substring(0, name.length() - 5));
    }

    private static void walk(TreeMap<String, byte[]> parts, String name, Set<String> reached) {
        if (!parts.containsKey(name) || !reached.add(name) || tells(parts, name) || !parts.containsKey(name + ".rels")) {
            return;
        }
        for (String goal : new MarkupOracle(parts.get(name + ".rels")).tos) {
            walk(parts, goal, reached);
        }
    }
}
