import java.util.ArrayList;
import java.util.LinkedHashMap;
import java.util.List;
import java.util.Map;

/**
 * All that can be seen of an object, each answer with its status, in groups by what it is part of. The last groups are
 * seen by calls that change the object, so it is of no use for anything else then.
 */
final class Seen {
    private final Map<String, List<Long>> groups = new LinkedHashMap<>();
    private final AskBack x;
    private List<Long> group;

    private Seen(AskBack x) {
        this.x = x;
    }

    static Seen of(AskBack x) {
        Seen all = new Seen(x);
        all.told();
        all.trays();
        all.texts();
        all.states();
        all.latest();
        all.talk();
        all.sayings();
        all.tape();
        all.marks();
        return all;
    }

    /** The groups in which the other one is not as this one, but for those that may be otherwise. */
    List<String> unlike(Seen other, List<String> may) {
        List<String> all = new ArrayList<>();
        for (Map.Entry<String, List<Long>> one : groups.entrySet()) {
            if (!may.contains(one.getKey()) && !one.getValue().equals(other.groups.get(one.getKey()))) {
                all.add(one.getKey() + " " + one.getValue() + " / " + other.groups.get(one.getKey()));
            }
        }
        return all;
    }

    List<Long> group(String name) {
        return groups.get(name);
    }

    private void open(String name) {
        group = groups.computeIfAbsent(name, n -> new ArrayList<>());
    }

    private void see(long answer) {
        group.add(answer);
        group.add((long) x.status());
    }

    private void told() {
        open("fault");
        group.add((long) x.fault(0));
        group.add((long) x.fault(1));
        open("fraction");
        group.add(x.top());
        group.add(x.bottom());
    }

    private void trays() {
        open("trays");
        for (int tray = 0; tray < 4; tray++) {
            for (int place : new int[] {0, 1, 4, 5, 59}) {
                see(x.read(tray, place));
            }
            for (int other = tray + 1; other < 4; other++) {
                see(x.pour(tray, 0, other, 0, 0) ? 1 : 0);
            }
        }
    }

    private void texts() {
        open("lines");
        see(x.many(0));
        for (int line = 0; line < 8; line++) {
            see(x.word(line, -1));
            see(x.word(line, 1));
        }
        open("couples");
        see(x.many(1));
        see(x.claim(2));
        open("scripts");
        for (int script = 0; script < 3; script++) {
            for (int what = 0; what < 3; what++) {
                see(x.count(script, what));
            }
            for (int rule = 0; rule < 4; rule++) {
                see(x.rule(script, rule, 0) * 100 + x.rule(script, rule, 1) * 10 + x.rule(script, rule, 2));
            }
            see(x.turned(script, Check.word("x")));
        }
    }

    private void states() {
        open("states");
        for (int script = 0; script < 2; script++) {
            see(x.count(script, 3));
            for (int rule = 0; rule < 4; rule++) {
                see(x.rule(script, rule, 3));
            }
            for (int k = 0; k < 3; k++) {
                see(x.remembered(script, k, 1));
            }
        }
    }

    private void latest() {
        open("gaps");
        for (int k = 1; k < 4; k++) {
            see(x.gap(k, 0));
            see(x.gap(k, 1));
        }
        open("said");
        for (int i = 0; i < 5; i++) {
            see(x.said(i));
            see(x.how(i));
        }
        open("led");
        for (int k = 0; k < 3; k++) {
            see(x.led(k));
        }
        open("ring");
        see(x.ring(0));
        see(x.ring(1));
        open("least");
        see(x.leastSet());
        open("orders");
        see(x.ahead(0, 1));
        see(x.ahead(1, 0));
        see(x.ahead(0, 2));
    }

    private void talk() {
        open("talk");
        see(x.many(2));
        for (int k = 0; k < 6; k++) {
            see(x.spoken(k, -1));
            see(x.spoken(k, 0));
        }
        see(x.doubt(1));
        see(x.claim(0));
        see(x.claim(3));
        open("reading");
        for (String word : new String[] {"a", "x", "q", "n"}) {
            see(x.heard(Check.word(word)));
        }
    }

    /** What the scripts say next tells whose turn it is in none, too. */
    private void sayings() {
        open("states");
        for (int script = 0; script < 2; script++) {
            for (int i = 0; i < 4; i++) {
                see(x.say(script, 1));
                see(x.said(0));
            }
            see(x.say(script, 0));
            see(x.said(0));
            see(x.said(1));
        }
    }

    private void tape() {
        open("tape");
        group.add((long) x.feed(0x20202020, 0x20202020, 0x20202020, 0x20202020, 0x20202020));
        see(x.script(2, 7));
        see(x.say(2, 1));
        see(x.said(0));
    }

    private void marks() {
        open("marks");
        for (int i = 0; i < 4; i++) {
            see(x.back());
            see(x.many(0));
            see(x.many(1));
            see(x.count(0, 1));
            see(x.count(0, 3));
            see(x.rule(0, 1, 3));
            see(x.say(0, 1));
            see(x.said(0));
        }
    }
}
