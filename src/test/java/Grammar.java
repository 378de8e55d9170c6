import java.util.ArrayList;
import java.util.HashMap;
import java.util.HashSet;
import java.util.LinkedHashSet;
import java.util.List;
import java.util.Map;
import java.util.Set;

/**
 * The grammar of the document, written as it stands there, with a recognizer that keeps every way of reading at once
 * (Earley's), so that the place of a fault comes from the grammar alone.
 */
final class Grammar {
    private record Rule(String name, List<String> parts) {
    }

    private record Item(Rule rule, int done, int from) {
        String next() {
            return done < rule.parts().size() ? rule.parts().get(done) : null;
        }

        Item step() {
            return new Item(rule, done + 1, from);
        }
    }

    private final Map<String, List<Rule>> rules = new HashMap<>();
    private final Map<String, Integer> known = new HashMap<>();

    Grammar() {
        rule("content", "", "number", "'- number", "'= comparison");
        rule("comparison", "sum", "sum [<>=] sum");
        rule("sum", "product", "sum [+-] product");
        rule("product", "factor", "product [*/] factor");
        rule("factor", "'- factor", "number", "reference", "call", "'( comparison ')");
        rule("reference", "dollar column dollar row");
        rule("dollar", "", "'$");
        rule("column", "[ABCDEFGHIJ]");
        rule("row", "positive", "'1 digit", "'2 '0");
        rule("number", "'0", "positive digits5");
        for (int count = 1; count <= 5; count++) {
            rule("digits" + count, "", "digit digits" + (count - 1));
        }
        rule("digits0", "");
        rule("digit", "[0123456789]");
        rule("positive", "[123456789]");
        rule("call", "list '( arguments ')", "'A 'B 'S '( comparison ')",
            "'I 'F '( comparison ', comparison ', comparison ')");
        rule("list", "'S 'U 'M", "'M 'I 'N", "'M 'A 'X", "'C 'O 'U 'N 'T");
        rule("arguments", "argument", "arguments ', argument");
        rule("argument", "reference ': reference", "comparison");
        rule("orders", "", "orders order");
        rule("order", "column row ': content ';");
    }

    private void rule(String name, String... alternatives) {
        List<Rule> list = new ArrayList<>();
        for (String alternative : alternatives) {
            list.add(new Rule(name, alternative.isEmpty() ? List.of() : List.of(alternative.split(" "))));
        }
        rules.put(name, list);
    }

    /** The fault of the text as a content or as orders; -1 if it has none. */
    int fault(String start, String text) {
        return known.computeIfAbsent(start + " " + text, key -> findFault(start, text));
    }

    private int findFault(String start, String text) {
        List<Set<Item>> sets = new ArrayList<>();
        Set<Item> first = new LinkedHashSet<>();
        for (Rule rule : rules.get(start)) {
            first.add(new Item(rule, 0, 0));
        }
        sets.add(first);
        close(sets);
        for (int place = 0; place < text.length(); place++) {
            Set<Item> next = new LinkedHashSet<>();
            for (Item item : sets.get(place)) {
                if (item.next() != null && takes(item.next(), text.charAt(place))) {
                    next.add(item.step());
                }
            }
            if (next.isEmpty()) {
                return place;
            }
            sets.add(next);
            close(sets);
        }
        for (Item item : sets.get(text.length())) {
            if (item.next() == null && item.from() == 0 && item.rule().name().equals(start)) {
                return -1;
            }
        }
        return text.length();
    }

    private static boolean takes(String part, char character) {
        if (part.charAt(0) == '\'') {
            return part.charAt(1) == character;
        }
        return part.charAt(0) == '[' && part.substring(1, part.length() - 1).indexOf(character) >= 0;
    }

    private void close(List<Set<Item>> sets) {
        int here = sets.size() - 1;
        Set<Item> set = sets.get(here);
        boolean grown = true;
        while (grown) {
            Set<Item> more = new HashSet<>();
            for (Item item : set) {
                String next = item.next();
                if (next == null) {
                    for (Item waiting : sets.get(item.from())) {
                        if (item.rule().name().equals(waiting.next())) {
                            more.add(waiting.step());
                        }
                    }
                } else if (rules.containsKey(next)) {
                    for (Rule rule : rules.get(next)) {
                        more.add(new Item(rule, 0, here));
                    }
                }
            }
            grown = set.addAll(more);
        }
    }
}
