import java.util.ArrayList;
import java.util.Comparator;
import java.util.List;
import java.util.TreeSet;

/** The document's words once more, written with the library and without care for room or speed. */
final class PlainModel {
    private static final class Paper {
        int kind;
        int trader;
        String state = "PREPARED";
        boolean presented;
        boolean paid;
        boolean faulty;
        TreeSet<Integer> bars = new TreeSet<>();
        List<Integer> written = new ArrayList<>();
        int changed;
        int asker = -1;
        int reason;
    }

    private record Told(int number, int declaration, int kind, int who, int time) { }

    private static final List<String> STATES = List.of("PREPARED", "LODGED", "ACCEPTED", "UNDER CHECK",
        "RELEASED", "LEFT", "INVALIDATED", "CLEARED");
    private static final List<String> ROLES = List.of("trader", "officer", "port");

    private final List<String> people = new ArrayList<>();
    private final List<Paper> papers = new ArrayList<>();
    private final List<Told> events = new ArrayList<>();
    private final List<Integer> results = new ArrayList<>();
    private final TreeSet<Integer> failing = new TreeSet<>();
    private int now;
    private int from = 8;
    private int to = 16;

    int person(int role) {
        argument(role >= 0 && role <= 2);
        room(people.size() < 12);
        people.add(ROLES.get(role));
        return people.size() - 1;
    }

    int declaration(int kind, int trader) {
        argument(kind >= 0 && kind <= 2 && is(trader, "trader"));
        room(papers.size() < 20);
        Paper paper = new Paper();
        paper.kind = kind;
        paper.trader = trader;
        papers.add(paper);
        return papers.size() - 1;
    }

    int event(int declaration, int kind, int who, int time) {
        argument(has(papers, declaration) && kind >= 0 && kind <= 9 && has(people, who));
        argument(time > now && time <= 100000);
        room(events.size() < 120 && count(3) < 20);
        events.add(new Told(events.size(), declaration, kind, who, time));
        results.add(null);
        return events.size() - 1;
    }

    int tick(int time) {
        argument(time >= now && time <= 100000);
        List<Told> due = new ArrayList<>();
        for (Told one : events) {
            if (results.get(one.number) == null && one.time <= time) {
                due.add(one);
            }
        }
        due.sort(Comparator.comparingInt(Told::time).thenComparingInt(Told::kind).thenComparingInt(Told::number));
        for (Told one : due) {
            int result = resultOf(one);
            results.set(one.number, result);
            papers.get(one.declaration).written.add(16 * (result + 8) + one.kind);
        }
        now = time;
        return due.size();
    }

    private int resultOf(Told one) {
        Paper paper = papers.get(one.declaration);
        if (failing.remove(one.kind)) {
            return -2;
        }
        boolean own = one.who == paper.trader;
        boolean officer = is(one.who, "officer");
        boolean port = is(one.who, "port");
        boolean may = List.of(own, !officer, officer, officer, officer, officer, own, port, officer, own).get(one.kind);
        if (!may) {
            return -3;
        }
        if (officer && (one.time % 24 < from || one.time % 24 > to - 1)) {
            return -4;
        }
        if (!startsOf(one.kind, paper.kind).contains(paper.state)) {
            return -5;
        }
        boolean mark = one.kind == 1 ? !paper.presented
            : one.kind == 2 ? paper.presented || paper.kind == 1
            : one.kind == 6 ? !paper.paid
            : one.kind == 9 ? paper.faulty : true;
        if (!mark) {
            return -6;
        }
        change(paper, one.kind, one.time);
        release(paper, one.time);
        return STATES.indexOf(paper.state);
    }

    private static List<String> startsOf(int act, int kind) {
        return switch (act) {
            case 0 -> List.of("PREPARED");
            case 1 -> List.of("PREPARED", "LODGED", "ACCEPTED");
            case 2 -> List.of("LODGED");
            case 3 -> List.of("ACCEPTED");
            case 4, 5 -> List.of("UNDER CHECK");
            case 6, 9 -> List.of("ACCEPTED", "UNDER CHECK");
            case 7 -> kind == 0 ? List.of() : List.of("RELEASED");
            default -> kind == 0 ? List.of("RELEASED", "LEFT") : List.of("LEFT");
        };
    }

    private static void change(Paper paper, int act, int time) {
        String next = switch (act) {
            case 0 -> "LODGED";
            case 2, 4, 5 -> "ACCEPTED";
            case 3 -> "UNDER CHECK";
            case 7 -> "LEFT";
            case 8 -> "CLEARED";
            default -> paper.state;
        };
        paper.presented |= act == 1;
        paper.paid |= act == 6;
        paper.faulty = act == 5 || paper.faulty && act != 9;
        enter(paper, next, time);
    }

    private static void enter(Paper paper, String next, int time) {
        if (!paper.state.equals(next)) {
            paper.state = next;
            paper.changed = time;
            paper.asker = -1;
        }
    }

    private static void release(Paper paper, int time) {
        if (paper.state.equals("ACCEPTED") && paper.bars.isEmpty() && !paper.faulty && paper.presented
                && (paper.kind != 0 || paper.paid)) {
            enter(paper, "RELEASED", time);
        }
    }

    int hours(int start, int end) {
        if (start < 0 || start > 24 || end < 0 || end > 24 || start >= end) {
            return 0;
        }
        from = start;
        to = end;
        return 1;
    }

    int fails(int kind, boolean on) {
        if (kind < 0 || kind > 9) {
            return 0;
        }
        return (on ? failing.add(kind) : failing.remove(kind)) ? 1 : 0;
    }

    int bar(int declaration, int kind, boolean on) {
        argument(has(papers, declaration) && kind >= 0 && kind <= 7);
        Paper paper = papers.get(declaration);
        if (paper.state.equals("INVALIDATED") || paper.state.equals("CLEARED")) {
            return -1;
        }
        if (!(on ? paper.bars.add(kind) : paper.bars.remove(kind))) {
            return -1;
        }
        release(paper, now);
        return paper.bars.size();
    }

    int invalidate(int declaration, int who, int reason) {
        argument(has(papers, declaration) && has(people, who) && reason >= 0 && reason <= 9);
        Paper paper = papers.get(declaration);
        boolean free = paper.state.equals("PREPARED") || paper.state.equals("LODGED");
        boolean reasoned = paper.state.equals("ACCEPTED") || paper.state.equals("UNDER CHECK");
        boolean byTwo = paper.state.equals("RELEASED");
        if (!is(who, "officer") || !free && reason == 0 || !free && !reasoned && !byTwo) {
            return 0;
        }
        if (byTwo && paper.asker == who) {
            return 0;
        }
        if (byTwo && paper.asker == -1) {
            paper.asker = who;
            return 2;
        }
        enter(paper, "INVALIDATED", now);
        paper.reason = reason;
        return 1;
    }

    int look(int declaration, int what) {
        index(has(papers, declaration) && what >= 0 && what <= 8);
        Paper paper = papers.get(declaration);
        int bits = 0;
        for (int bar : paper.bars) {
            bits += 1 << bar;
        }
        int marks = (paper.presented ? 1 : 0) + (paper.paid ? 2 : 0) + (paper.faulty ? 4 : 0);
        return List.of(STATES.indexOf(paper.state), paper.kind, paper.trader, marks, bits, paper.written.size(),
            paper.changed, paper.asker, paper.reason).get(what);
    }

    int written(int declaration, int i) {
        argument(has(papers, declaration));
        List<Integer> all = papers.get(declaration).written;
        return has(all, i) ? all.get(i) : -1;
    }

    int of(int event, int what) {
        index(has(events, event) && what >= 0 && what <= 5);
        Told one = events.get(event);
        Integer result = results.get(event);
        return List.of(one.declaration, one.kind, one.who, one.time, result == null ? 1 : 0,
            result == null ? -1 : result).get(what);
    }

    int count(int what) {
        int waiting = 0;
        for (Integer result : results) {
            waiting += result == null ? 1 : 0;
        }
        if (what >= 0 && what <= 4) {
            return List.of(people.size(), papers.size(), events.size(), waiting, now).get(what);
        }
        if (what < 10 || what > 17) {
            return -1;
        }
        int found = 0;
        for (Paper paper : papers) {
            found += paper.state.equals(STATES.get(what - 10)) ? 1 : 0;
        }
        return found;
    }

    private boolean is(int who, String role) {
        return has(people, who) && people.get(who).equals(role);
    }

    private static boolean has(List<?> list, int place) {
        return place >= 0 && place < list.size();
    }

    private static void argument(boolean good) {
        if (!good) {
            throw new IllegalArgumentException();
        }
    }

    private static void room(boolean there) {
        if (!there) {
            throw new IllegalStateException();
        }
    }

    private static void index(boolean good) {
        if (!good) {
            throw new IndexOutOfBoundsException();
        }
    }
}
