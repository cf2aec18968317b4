import java.util.ArrayList;
import java.util.List;
import java.util.Random;

/**
 * Long runs of calls, the same ones each time, answered by MemberFinder and by the document's rules
 * written down as they stand there, with the recursion of Terms 4.
 */
public final class ReferenceTest {
    private static final int RUNS = 3000;
    private static final int CALLS = 512;

    private static int wrong = 0;

    private record Kind(int parent, int pack) { }

    private record Entry(int of, int name, int rights, boolean isStatic, boolean isFinal, int kind, int type) { }

    /** The document's rules, with no thought of speed. */
    private static final class Reference {
        final List<Kind> classes = new ArrayList<>();
        final List<Entry> members = new ArrayList<>();
        int refused = 0;

        int refuse(int why) {
            refused = why;
            return -1;
        }

        boolean isClass(int c) {
            return c >= 0 && c < classes.size();
        }

        boolean isMember(int m) {
            return m >= 0 && m < members.size();
        }

        int newClass(int parent, int pack) {
            if (classes.size() == 40 || (parent != -1 && !isClass(parent))) {
                return -1;
            }
            classes.add(new Kind(parent, pack));
            return classes.size() - 1;
        }

        boolean below(int a, int b) {
            if (!isClass(a) || !isClass(b)) {
                return false;
            }
            return a == b || below(classes.get(a).parent, b);
        }

        boolean samePack(int a, int b) {
            return classes.get(a).pack == classes.get(b).pack;
        }

        boolean reaches(int asker, int m) {
            if (!isClass(asker) || !isMember(m)) {
                return false;
            }
            int d = members.get(m).of;
            return switch (members.get(m).rights) {
                case 0 -> asker == d;
                case 1 -> samePack(asker, d);
                case 2 -> samePack(asker, d) || below(asker, d);
                default -> true;
            };
        }

        boolean isObjectMethod(int m) {
            return isMember(m) && members.get(m).kind == 1 && !members.get(m).isStatic;
        }

        boolean sameNameAndType(int x, int m) {
            return members.get(x).name == members.get(m).name && members.get(x).type == members.get(m).type;
        }

        boolean isBetween(int c, int lower, int upper) {
            return c != lower && c != upper && below(lower, c) && below(c, upper);
        }

        boolean overrides(int x, int m) {
            if (!isObjectMethod(x) || !isObjectMethod(m) || !sameNameAndType(x, m)) {
                return false;
            }
            Entry lower = members.get(x);
            Entry upper = members.get(m);
            if (lower.of == upper.of || !below(lower.of, upper.of) || lower.rights == 0 || upper.rights == 0) {
                return false;
            }
            if (upper.rights >= 2 || samePack(lower.of, upper.of)) {
                return true;
            }
            for (int y = 0; y < members.size(); y++) {
                if (isBetween(members.get(y).of, lower.of, upper.of) && overrides(x, y) && overrides(y, m)) {
                    return true;
                }
            }
            return false;
        }

        boolean isThere(Entry e) {
            for (Entry o : members) {
                boolean same = switch (e.kind) {
                    case 0 -> o.name == e.name;
                    case 1 -> o.name == e.name && o.type == e.type;
                    default -> o.type == e.type;
                };
                if (o.kind == e.kind && o.of == e.of && same) {
                    return true;
                }
            }
            return false;
        }

        /** Takes the method in for a while to see what it would override. */
        boolean isForbidden(Entry e) {
            int x = members.size();
            members.add(e);
            boolean is = false;
            for (int m = 0; m < x; m++) {
                Entry o = members.get(m);
                if (e.isStatic) {
                    is |= isObjectMethod(m) && o.of != e.of && below(e.of, o.of) && sameNameAndType(x, m)
                            && o.rights != 0 && reaches(e.of, m);
                } else {
                    is |= overrides(x, m) && (o.isFinal || o.rights > e.rights);
                }
            }
            members.remove(x);
            return is;
        }

        int add(Entry e) {
            if (!isClass(e.of)) {
                return refuse(1);
            }
            if (e.name < 0 || e.name > 99 || e.rights < 0 || e.rights > 3) {
                return refuse(2);
            }
            if (isThere(e)) {
                return refuse(4);
            }
            if (e.kind == 1 && isForbidden(e)) {
                return refuse(8);
            }
            if (members.size() == 200) {
                return refuse(5);
            }
            members.add(e);
            refused = 0;
            return members.size() - 1;
        }

        boolean isAsTold(Entry e, int name, int type, int way) {
            return switch (way) {
                case 0 -> e.kind == 1 && e.isStatic && e.name == name && e.type == type;
                case 1, 2 -> e.kind == 1 && !e.isStatic && e.name == name && e.type == type;
                case 3 -> e.kind == 2 && e.type == type;
                default -> e.kind == 0 && e.name == name;
            };
        }

        int first(int of, int name, int type, int way) {
            for (int c = of; c != -1; c = way == 3 ? -1 : classes.get(c).parent) {
                for (int m = 0; m < members.size(); m++) {
                    if (members.get(m).of == c && isAsTold(members.get(m), name, type, way)) {
                        return m;
                    }
                }
            }
            return -1;
        }

        int find(int asker, int of, int name, int type, int way) {
            if (!isClass(asker) || !isClass(of) || way < 0 || way > 5) {
                return refuse(1);
            }
            if (way != 3 && (name < 0 || name > 99)) {
                return refuse(2);
            }
            int m = first(of, name, type, way);
            if (m == -1) {
                return refuse(6);
            }
            if (!reaches(asker, m) || (way == 2 && !below(asker, of))) {
                return refuse(7);
            }
            if (way == 5 && members.get(m).isFinal && members.get(m).of != asker) {
                return refuse(3);
            }
            refused = 0;
            return m;
        }

        int called(int m, int of) {
            if (!isObjectMethod(m) || !isClass(of) || !below(of, members.get(m).of)) {
                return -1;
            }
            for (int c = of; c != members.get(m).of; c = classes.get(c).parent) {
                for (int x = 0; x < members.size(); x++) {
                    if (members.get(x).of == c && overrides(x, m)) {
                        return x;
                    }
                }
            }
            return m;
        }

        int member(int m, int what) {
            if (!isMember(m)) {
                return -1;
            }
            Entry e = members.get(m);
            return switch (what) {
                case 0 -> e.of;
                case 1 -> e.name;
                case 2 -> e.rights;
                case 3 -> e.isStatic ? 1 : 0;
                case 4 -> e.isFinal ? 1 : 0;
                case 5 -> e.kind;
                case 6 -> e.type;
                default -> -1;
            };
        }

        boolean isHidden(int m, int of) {
            for (int x = 0; x < members.size(); x++) {
                boolean isAhead = below(of, members.get(x).of) && members.get(x).of != members.get(m).of
                        && below(members.get(x).of, members.get(m).of);
                boolean hides = members.get(m).kind == 0
                        ? members.get(x).kind == 0 && members.get(x).name == members.get(m).name
                        : overrides(x, m);
                if (isAhead && hides) {
                    return true;
                }
            }
            return false;
        }

        int seen(int asker, int of) {
            if (!isClass(asker) || !isClass(of)) {
                return -1;
            }
            int count = 0;
            for (int m = 0; m < members.size(); m++) {
                if (below(of, members.get(m).of) && reaches(asker, m) && !isHidden(m, of)) {
                    count++;
                }
            }
            return count;
        }
    }

    private static void due(int run, int call, String what, int got, int want) {
        if (got != want) {
            wrong++;
            if (wrong <= 20) {
                System.out.println("run " + run + ", call " + call + ": " + what + " answered " + got + ", due is " + want);
            }
        }
    }

    private static int asInt(boolean b) {
        return b ? 1 : 0;
    }

    /** A run of its own kind: how many classes, packages, names and types there are, and how deep the line is. */
    private static void run(int run) {
        Random random = new Random(run);
        MemberFinder f = new MemberFinder();
        Reference r = new Reference();
        int mostClasses = 1 + random.nextInt(run % 10 == 0 ? 45 : 9);
        int packs = 1 + random.nextInt(4);
        int names = 1 + random.nextInt(4);
        int types = 1 + random.nextInt(3);
        boolean isLine = random.nextBoolean();
        int calls = run % 10 == 0 ? CALLS : 40 + random.nextInt(160);
        for (int call = 0; call < calls; call++) {
            int a = random.nextInt(r.classes.size() + 2) - 1;
            int b = random.nextInt(r.classes.size() + 2) - 1;
            int m = random.nextInt(r.members.size() + 2) - 1;
            int x = random.nextInt(r.members.size() + 2) - 1;
            int name = random.nextInt(30) == 0 ? (random.nextBoolean() ? 100 : -1) : random.nextInt(names);
            int type = random.nextInt(types) - 1;
            int rights = random.nextInt(30) == 0 ? random.nextInt(6) - 1 : random.nextInt(4);
            boolean isStatic = random.nextInt(4) == 0;
            boolean isFinal = random.nextInt(6) == 0;
            int way = random.nextInt(20) == 0 ? random.nextInt(8) - 1 : random.nextInt(6);
            int pick = random.nextInt(20);
            if (r.classes.size() < mostClasses && random.nextInt(3) == 0) {
                int parent = isLine ? r.classes.size() - 1 : a;
                int pack = random.nextInt(packs);
                due(run, call, "newClass", f.newClass(parent, pack), r.newClass(parent, pack));
            } else if (pick < 2) {
                due(run, call, "field", f.field(a, name, isStatic, isFinal, rights),
                        r.add(new Entry(a, name, rights, isStatic, isFinal, 0, 0)));
            } else if (pick < 8) {
                due(run, call, "method", f.method(a, name, type, isStatic, isFinal, rights),
                        r.add(new Entry(a, name, rights, isStatic, isFinal, 1, type)));
            } else if (pick < 9) {
                due(run, call, "maker", f.maker(a, type, rights),
                        r.add(new Entry(a, 0, rights, false, false, 2, type)));
            } else if (pick < 12) {
                due(run, call, "find", f.find(a, b, name, type, way), r.find(a, b, name, type, way));
            } else if (pick < 14) {
                due(run, call, "called", f.called(m, a), r.called(m, a));
            } else if (pick < 16) {
                due(run, call, "overrides", asInt(f.overrides(x, m)), asInt(r.overrides(x, m)));
            } else if (pick < 18) {
                due(run, call, "seen", f.seen(a, b), r.seen(a, b));
            } else if (pick < 19) {
                due(run, call, "reaches", asInt(f.reaches(a, m)), asInt(r.reaches(a, m)));
            } else {
                due(run, call, "below", asInt(f.below(a, b)), asInt(r.below(a, b)));
                int what = random.nextInt(9) - 1;
                due(run, call, "member", f.member(m, what), r.member(m, what));
            }
            due(run, call, "refused", f.refused(), r.refused);
        }
    }

    public static void main(String[] args) {
        for (int i = 0; i < RUNS; i++) {
            run(i);
        }
        System.out.println(wrong == 0 ? "all answers are as due" : wrong + " answers are not as due");
        if (wrong != 0) {
            System.exit(1);
        }
    }
}
