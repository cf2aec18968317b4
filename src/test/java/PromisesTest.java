/** Each promise of the document by hand: ordinary inputs, the edges it names, wrong inputs. */
public final class PromisesTest {
    private static final int NONE = MemberFinder.NONE;
    private static final int LEAST = Integer.MIN_VALUE;
    private static final int MOST = Integer.MAX_VALUE;

    private static int wrong = 0;

    private static void due(String what, int got, int want) {
        if (got != want) {
            wrong++;
            System.out.println(what + " answered " + got + ", due is " + want);
        }
    }

    private static void due(String what, boolean got, boolean want) {
        due(what, got ? 1 : 0, want ? 1 : 0);
    }

    private static void dueRefused(String what, MemberFinder f, int got, int why) {
        due(what, got, NONE);
        due(what + ", refused()", f.refused(), why);
    }

    private static void dueAdded(String what, MemberFinder f, int got, int number) {
        due(what, got, number);
        due(what + ", refused()", f.refused(), 0);
    }

    public static void main(String[] args) {
        newObject();
        newClass();
        below();
        field();
        method();
        methodOverridingWrongly();
        staticMethodOverObjectMethod();
        maker();
        fullOfMembers();
        findMethods();
        findFromBelow();
        findMakers();
        findFields();
        findRefusalsInOrder();
        refused();
        reaches();
        called();
        overrides();
        overridesThroughOthers();
        member();
        seenMembers();
        seenFields();
        seenMethods();
        deepLine();
        System.out.println(wrong == 0 ? "all answers are as due" : wrong + " answers are not as due");
        if (wrong != 0) {
            System.exit(1);
        }
    }

    private static void newObject() {
        MemberFinder f = new MemberFinder();
        due("1: NONE", NONE, -1);
        due("1: refused()", f.refused(), 0);
        due("1: below(0, 0)", f.below(0, 0), false);
        due("1: member(0, 0)", f.member(0, 0), NONE);
        due("1: reaches(0, 0)", f.reaches(0, 0), false);
        due("1: called(0, 0)", f.called(0, 0), NONE);
        due("1: overrides(0, 0)", f.overrides(0, 0), false);
        due("1: seen(0, 0)", f.seen(0, 0), NONE);
        dueRefused("1: find", f, f.find(0, 0, 0, 0, 0), 1);
        dueRefused("1: field", f, f.field(0, 0, false, false, 3), 1);
        due("1: first class", f.newClass(NONE, 0), 0);
        dueAdded("1: first member", f, f.field(0, 0, false, false, 3), 0);
        MemberFinder other = new MemberFinder();
        due("1: another object has its own classes", other.below(0, 0), false);
    }

    private static void newClass() {
        MemberFinder f = new MemberFinder();
        due("2: no parent to be had", f.newClass(0, 1), NONE);
        due("2: below NONE", f.newClass(-2, 1), NONE);
        due("2: LEAST", f.newClass(LEAST, 1), NONE);
        due("2: first", f.newClass(NONE, LEAST), 0);
        due("2: itself as parent", f.newClass(1, 1), NONE);
        due("2: second", f.newClass(0, MOST), 1);
        for (int i = 2; i < 40; i++) {
            due("2: class " + i, f.newClass(i % 3 == 0 ? NONE : i - 1, 0), i);
        }
        due("2: the 41st", f.newClass(NONE, 0), NONE);
        due("2: the 41st with a parent", f.newClass(0, 0), NONE);
        due("2: the 41st isn't there", f.below(40, 40), false);
        due("2: the 40th is", f.below(39, 39), true);
        due("2: newClass is no refusal", f.refused(), 0);
    }

    private static void below() {
        MemberFinder f = new MemberFinder();
        f.newClass(NONE, 0);
        f.newClass(0, 0);
        f.newClass(1, 0);
        f.newClass(0, 0);
        f.newClass(NONE, 0);
        String[] rows = {"10000", "11000", "11100", "10010", "00001"};
        for (int a = 0; a < 5; a++) {
            for (int b = 0; b < 5; b++) {
                due("3: below(" + a + ", " + b + ")", f.below(a, b), rows[a].charAt(b) == '1');
            }
        }
        due("3: below(5, 0)", f.below(5, 0), false);
        due("3: below(0, 5)", f.below(0, 5), false);
        due("3: below(-1, -1)", f.below(-1, -1), false);
        due("3: below(0, -1)", f.below(0, -1), false);
        due("3: below(LEAST, MOST)", f.below(LEAST, MOST), false);
    }

    private static void field() {
        MemberFinder f = new MemberFinder();
        f.newClass(NONE, 1);
        f.newClass(0, 1);
        dueAdded("4: name 0", f, f.field(0, 0, false, false, 0), 0);
        dueAdded("4: name 99", f, f.field(0, 99, true, true, 3), 1);
        dueRefused("4: class 2", f, f.field(2, 1, false, false, 0), 1);
        dueRefused("4: class -1", f, f.field(-1, 1, false, false, 0), 1);
        dueRefused("4: 1 ahead of 2", f, f.field(2, 100, false, false, 4), 1);
        dueRefused("4: name -1", f, f.field(0, -1, false, false, 0), 2);
        dueRefused("4: name 100", f, f.field(0, 100, false, false, 0), 2);
        dueRefused("4: rights -1", f, f.field(0, 1, false, false, -1), 2);
        dueRefused("4: rights 4", f, f.field(0, 1, false, false, 4), 2);
        dueRefused("4: 2 ahead of 4", f, f.field(0, 0, false, false, 4), 2);
        dueRefused("4: there already", f, f.field(0, 0, true, true, 3), 4);
        dueAdded("4: in a class below", f, f.field(1, 99, false, false, 0), 2);
        f.method(0, 5, 0, false, false, 3);
        dueAdded("4: a method of that name", f, f.field(0, 5, false, false, 0), 4);
        f.maker(0, 0, 3);
        dueAdded("4: a maker is no field of name 0", f, f.field(1, 0, false, false, 0), 6);
    }

    private static void method() {
        MemberFinder f = new MemberFinder();
        f.newClass(NONE, 1);
        dueAdded("5: plain", f, f.method(0, 0, LEAST, false, false, 0), 0);
        dueAdded("5: other type", f, f.method(0, 0, MOST, true, false, 3), 1);
        dueAdded("5: other name", f, f.method(0, 99, LEAST, false, true, 2), 2);
        dueRefused("5: class 1", f, f.method(1, 1, 1, false, false, 0), 1);
        dueRefused("5: 1 ahead of 2", f, f.method(-1, -1, 1, false, false, 9), 1);
        dueRefused("5: name 100", f, f.method(0, 100, 1, false, false, 0), 2);
        dueRefused("5: name -1", f, f.method(0, -1, 1, false, false, 0), 2);
        dueRefused("5: rights 4", f, f.method(0, 1, 1, false, false, 4), 2);
        dueRefused("5: rights -1", f, f.method(0, 1, 1, false, false, -1), 2);
        dueRefused("5: there already", f, f.method(0, 0, LEAST, false, false, 3), 4);
        dueRefused("5: there already, static or not", f, f.method(0, 0, LEAST, true, false, 3), 4);
        dueRefused("5: there already, as a static one", f, f.method(0, 0, MOST, false, false, 3), 4);
        f.field(0, 7, false, false, 3);
        dueAdded("5: a field of that name", f, f.method(0, 7, 0, false, false, 3), 4);
        f.maker(0, 8, 3);
        dueAdded("5: a maker of that type", f, f.method(0, 0, 8, false, false, 3), 6);
        f.newClass(0, 1);
        f.method(0, 20, 1, false, true, 3);
        f.method(1, 20, 2, false, false, 3);
        dueRefused("5: 4 ahead of 8", f, f.method(0, 20, 1, false, false, 0), 4);
        dueRefused("5: 2 ahead of 8", f, f.method(1, 20, 1, false, false, 4), 2);
    }

    private static void methodOverridingWrongly() {
        MemberFinder f = new MemberFinder();
        f.newClass(NONE, 1);
        f.newClass(0, 2);
        f.newClass(1, 1);
        f.method(0, 1, 0, false, true, 3);
        dueRefused("5: over a final one", f, f.method(1, 1, 0, false, false, 3), 8);
        dueRefused("5: over a final one, further up", f, f.method(2, 1, 0, false, true, 3), 8);
        dueAdded("5: other type than the final one", f, f.method(1, 1, 1, false, false, 3), 1);
        dueAdded("5: private ones override nothing", f, f.method(1, 1, 0, false, false, 0), 2);
        f.method(0, 2, 0, false, true, 0);
        dueAdded("5: over a private final one", f, f.method(1, 2, 0, false, false, 1), 4);
        f.method(0, 3, 0, false, true, 1);
        dueAdded("5: final of package rights, other package", f, f.method(1, 3, 0, false, false, 3), 6);
        dueRefused("5: final of package rights, same package", f, f.method(2, 3, 0, false, false, 3), 8);
        f.method(0, 4, 0, true, true, 3);
        dueAdded("5: over a static final one", f, f.method(1, 4, 0, false, false, 1), 8);
        for (int above = 0; above < 4; above++) {
            for (int own = 0; own < 4; own++) {
                int name = 10 + above * 4 + own;
                f.method(0, name, 0, false, false, above);
                int got = f.method(2, name, 0, false, false, own);
                boolean isLess = above > own && own > 0;
                due("5: rights " + own + " over " + above, got == NONE, isLess);
                due("5: rights " + own + " over " + above + ", refused()", f.refused(), isLess ? 8 : 0);
            }
        }
        f.method(0, 41, 0, false, false, 1);
        f.method(1, 41, 0, false, true, 2);
        dueRefused("5: the nearer one is final", f, f.method(2, 41, 0, false, false, 3), 8);
        MemberFinder g = new MemberFinder();
        g.newClass(NONE, 1);
        g.newClass(0, 1);
        g.newClass(1, 2);
        g.method(1, 0, 0, false, false, 3);
        g.method(0, 0, 0, false, true, 1);
        dueRefused("5: final, overridden through another", g, g.method(2, 0, 0, false, false, 3), 8);
        g.method(0, 1, 0, false, true, 1);
        dueAdded("5: final, with none between", g, g.method(2, 1, 0, false, false, 3), 3);
        dueAdded("5: below", g, g.method(2, 2, 0, false, false, 1), 4);
        dueAdded("5: nothing is asked of those below", g, g.method(0, 2, 0, false, true, 3), 5);
        due("5: and they override it", g.called(5, 2), 4);
    }

    private static void staticMethodOverObjectMethod() {
        MemberFinder f = new MemberFinder();
        f.newClass(NONE, 1);
        f.newClass(0, 2);
        f.newClass(1, 1);
        for (int rights = 0; rights < 4; rights++) {
            f.method(0, rights, 0, false, false, rights);
            f.method(0, 10 + rights, 0, true, true, rights);
        }
        dueAdded("5: static over private", f, f.method(1, 0, 0, true, false, 3), 8);
        dueAdded("5: static over package, other package", f, f.method(1, 1, 0, true, false, 3), 9);
        dueRefused("5: static over protected", f, f.method(1, 2, 0, true, false, 3), 8);
        dueRefused("5: static over public", f, f.method(1, 3, 0, true, false, 3), 8);
        dueRefused("5: private static over public", f, f.method(1, 3, 0, true, false, 0), 8);
        dueAdded("5: static over private, further up", f, f.method(2, 0, 0, true, false, 3), 10);
        dueRefused("5: static over package, same package", f, f.method(2, 1, 0, true, false, 3), 8);
        dueRefused("5: static over protected, further up", f, f.method(2, 2, 0, true, false, 3), 8);
        dueAdded("5: static of another type", f, f.method(2, 2, 1, true, false, 3), 11);
        for (int rights = 0; rights < 4; rights++) {
            dueAdded("5: static over static", f, f.method(1, 10 + rights, 0, true, false, 0), 12 + rights);
        }
        f.method(2, 30, 0, false, false, 3);
        dueAdded("5: static above an object method", f, f.method(0, 30, 0, true, false, 3), 17);
    }

    private static void maker() {
        MemberFinder f = new MemberFinder();
        f.newClass(NONE, 1);
        f.newClass(0, 1);
        dueAdded("6: plain", f, f.maker(0, 0, 0), 0);
        dueAdded("6: other type", f, f.maker(0, -1, 3), 1);
        dueAdded("6: in a class below", f, f.maker(1, 0, 1), 2);
        dueRefused("6: class 2", f, f.maker(2, 1, 0), 1);
        dueRefused("6: class -1", f, f.maker(-1, 1, 0), 1);
        dueRefused("6: 1 ahead of 2", f, f.maker(2, 1, 4), 1);
        dueRefused("6: rights 4", f, f.maker(0, 1, 4), 2);
        dueRefused("6: rights -1", f, f.maker(0, 1, -1), 2);
        dueRefused("6: 2 ahead of 4", f, f.maker(0, 0, 4), 2);
        dueRefused("6: there already", f, f.maker(0, 0, 3), 4);
        f.method(0, 0, 5, false, true, 3);
        dueAdded("6: a method of that type", f, f.maker(0, 5, 3), 4);
        dueAdded("6: a final method above", f, f.maker(1, 5, 0), 5);
        f.field(1, 0, false, false, 3);
        dueAdded("6: a field of name 0", f, f.maker(1, 6, 0), 7);
    }

    private static void fullOfMembers() {
        MemberFinder f = new MemberFinder();
        f.newClass(NONE, 1);
        f.newClass(0, 1);
        f.method(0, 50, 0, false, true, 3);
        f.maker(0, 0, 3);
        for (int i = 2; i < 200; i++) {
            dueAdded("5: member " + i, f, f.field(i % 2, i / 2, false, false, 3), i);
        }
        dueRefused("4: 5", f, f.field(0, 0, false, false, 3), 5);
        dueRefused("4: 4 ahead of 5", f, f.field(0, 1, false, false, 3), 4);
        dueRefused("4: 2 ahead of 5", f, f.field(0, 100, false, false, 3), 2);
        dueRefused("4: 1 ahead of 5", f, f.field(2, 1, false, false, 3), 1);
        dueRefused("5: 5", f, f.method(0, 1, 0, false, false, 3), 5);
        dueRefused("5: 8 ahead of 5", f, f.method(1, 50, 0, false, false, 3), 8);
        dueRefused("5: 8 ahead of 5, static", f, f.method(1, 50, 0, true, false, 3), 8);
        dueRefused("5: 4 ahead of 5", f, f.method(0, 50, 0, false, false, 3), 4);
        dueRefused("6: 5", f, f.maker(1, 0, 3), 5);
        dueRefused("6: 4 ahead of 5", f, f.maker(0, 0, 3), 4);
        due("12: the last", f.member(199, 1), 99);
        due("12: none more", f.member(200, 1), NONE);
        due("13: of so many", f.seen(1, 1), 3 + 99 - 1);
    }

    private static void findMethods() {
        MemberFinder f = new MemberFinder();
        f.newClass(NONE, 1);
        f.newClass(0, 1);
        f.newClass(1, 2);
        f.newClass(NONE, 3);
        f.method(0, 1, 5, true, false, 3);
        f.method(1, 1, 5, false, false, 2);
        f.method(1, 2, 5, true, false, 0);
        f.method(0, 2, 5, false, false, 1);
        f.field(2, 1, false, false, 3);
        dueAdded("7: way 0 passes object methods by", f, f.find(3, 2, 1, 5, 0), 0);
        dueAdded("7: way 1", f, f.find(2, 2, 1, 5, 1), 1);
        dueRefused("7: way 1, protected", f, f.find(3, 2, 1, 5, 1), 7);
        dueAdded("7: way 1 passes static ones by", f, f.find(1, 2, 2, 5, 1), 3);
        dueRefused("7: way 1, other package", f, f.find(2, 2, 2, 5, 1), 7);
        dueAdded("7: way 0, private, by its class", f, f.find(1, 2, 2, 5, 0), 2);
        dueRefused("7: way 0, private", f, f.find(0, 1, 2, 5, 0), 7);
        dueRefused("7: other type", f, f.find(1, 2, 2, 6, 0), 6);
        dueRefused("7: other name", f, f.find(1, 2, 3, 5, 0), 6);
        dueRefused("7: only in a class below", f, f.find(0, 0, 1, 5, 1), 6);
        dueRefused("7: way 0, only as an object method", f, f.find(0, 0, 2, 5, 0), 6);
        dueAdded("7: name 0, type -1", f, f.method(3, 0, -1, true, true, 3), 5);
        dueAdded("7: it is found", f, f.find(0, 3, 0, -1, 0), 5);
        // What is found first counts, though a parent has one that would be reached.
        f.method(0, 9, 0, false, false, 3);
        f.method(1, 9, 0, false, false, 0);
        dueRefused("7: the first is not reached", f, f.find(0, 2, 9, 0, 1), 7);
        dueAdded("7: in the parent", f, f.find(2, 0, 9, 0, 1), 6);
    }

    private static void findFromBelow() {
        MemberFinder f = new MemberFinder();
        f.newClass(NONE, 1);
        f.newClass(0, 1);
        f.newClass(1, 1);
        f.method(0, 1, 0, false, false, 3);
        f.method(0, 2, 0, true, false, 3);
        f.method(0, 3, 0, false, false, 0);
        dueAdded("7: way 2, itself", f, f.find(1, 1, 1, 0, 2), 0);
        dueAdded("7: way 2, below", f, f.find(2, 1, 1, 0, 2), 0);
        dueRefused("7: way 2, above the class asked", f, f.find(0, 1, 1, 0, 2), 7);
        dueAdded("7: way 1, above the class asked", f, f.find(0, 1, 1, 0, 1), 0);
        dueRefused("7: way 2, static", f, f.find(1, 1, 2, 0, 2), 6);
        dueRefused("7: way 2, 6 ahead of 7", f, f.find(0, 1, 5, 0, 2), 6);
        dueRefused("7: way 2, not reached", f, f.find(2, 1, 3, 0, 2), 7);
    }

    private static void findMakers() {
        MemberFinder f = new MemberFinder();
        f.newClass(NONE, 1);
        f.newClass(0, 2);
        f.maker(0, 4, 2);
        f.maker(1, 5, 0);
        f.method(1, 0, 4, false, false, 3);
        dueAdded("7: way 3", f, f.find(0, 0, 0, 4, 3), 0);
        dueAdded("7: way 3, protected", f, f.find(1, 0, 0, 4, 3), 0);
        dueAdded("7: way 3, name -1", f, f.find(0, 0, -1, 4, 3), 0);
        dueAdded("7: way 3, name MOST", f, f.find(0, 0, MOST, 4, 3), 0);
        dueAdded("7: way 3, name 7", f, f.find(1, 1, 7, 5, 3), 1);
        dueRefused("7: way 3, not in the parent", f, f.find(0, 1, 0, 4, 3), 6);
        dueRefused("7: way 3, private", f, f.find(0, 1, 0, 5, 3), 7);
        dueRefused("7: way 0 is for no maker", f, f.find(0, 0, 0, 4, 0), 6);
        dueRefused("7: way 1 is for no maker", f, f.find(0, 0, 0, 4, 1), 6);
        dueRefused("7: way 4 is for no maker", f, f.find(0, 0, 0, 4, 4), 6);
    }

    private static void findFields() {
        MemberFinder f = new MemberFinder();
        f.newClass(NONE, 1);
        f.newClass(0, 1);
        f.newClass(1, 2);
        f.field(0, 1, false, true, 1);
        f.field(0, 2, true, false, 3);
        f.field(1, 2, false, true, 2);
        f.method(1, 1, 0, true, false, 3);
        for (int type = -1; type <= 1; type++) {
            dueAdded("7: way 4, type " + type, f, f.find(1, 1, 1, type, 4), 0);
            dueAdded("7: way 5, type " + type, f, f.find(0, 1, 1, type, 5), 0);
        }
        dueRefused("7: way 5, final", f, f.find(1, 1, 1, 0, 5), 3);
        dueRefused("7: way 5, 7 ahead of 3", f, f.find(2, 1, 1, 0, 5), 7);
        dueAdded("7: way 4, the nearest", f, f.find(2, 2, 2, 0, 4), 2);
        dueRefused("7: way 5, final in the nearest", f, f.find(2, 2, 2, 0, 5), 3);
        dueAdded("7: way 5, by its class", f, f.find(1, 2, 2, 0, 5), 2);
        dueAdded("7: way 5, static and not final", f, f.find(2, 0, 2, 0, 5), 1);
        dueRefused("7: way 4, none", f, f.find(2, 0, 3, 0, 4), 6);
        f.field(2, 5, false, false, 3);
        dueRefused("7: way 5, in a class below", f, f.find(2, 1, 5, 0, 5), 6);
        f.method(0, 6, 0, false, true, 3);
        dueAdded("7: final methods are found", f, f.find(1, 0, 6, 0, 1), 5);
    }

    private static void findRefusalsInOrder() {
        MemberFinder f = new MemberFinder();
        f.newClass(NONE, 1);
        f.field(0, 1, false, false, 3);
        dueRefused("7: asker 1", f, f.find(1, 0, 1, 0, 4), 1);
        dueRefused("7: asker -1", f, f.find(-1, 0, 1, 0, 4), 1);
        dueRefused("7: class 1", f, f.find(0, 1, 1, 0, 4), 1);
        dueRefused("7: class LEAST", f, f.find(0, LEAST, 1, 0, 4), 1);
        dueRefused("7: way -1", f, f.find(0, 0, 1, 0, -1), 1);
        dueRefused("7: way 6", f, f.find(0, 0, 1, 0, 6), 1);
        dueRefused("7: 1 ahead of 2", f, f.find(0, 0, 100, 0, 6), 1);
        for (int way = 0; way <= 5; way++) {
            dueRefused("7: name 100, way " + way, f, f.find(0, 0, 100, 0, way), way == 3 ? 6 : 2);
            dueRefused("7: name -1, way " + way, f, f.find(0, 0, -1, 0, way), way == 3 ? 6 : 2);
            dueRefused("7: name 99, way " + way, f, f.find(0, 0, 99, 0, way), 6);
        }
    }

    private static void refused() {
        MemberFinder f = new MemberFinder();
        f.newClass(9, 0);
        due("8: newClass is not asked", f.refused(), 0);
        f.newClass(NONE, 0);
        f.field(0, 100, false, false, 0);
        f.newClass(NONE, 0);
        f.newClass(9, 0);
        f.below(9, 9);
        f.member(9, 9);
        f.reaches(9, 9);
        f.called(9, 9);
        f.overrides(9, 9);
        f.seen(9, 9);
        due("8: others leave it", f.refused(), 2);
        due("8: refused() leaves it", f.refused(), 2);
        f.field(0, 1, false, false, 0);
        due("8: field", f.refused(), 0);
        f.method(5, 1, 1, false, false, 0);
        due("8: method refused", f.refused(), 1);
        f.method(0, 1, 1, false, false, 0);
        due("8: method", f.refused(), 0);
        f.maker(0, 1, 7);
        due("8: maker refused", f.refused(), 2);
        f.maker(0, 1, 0);
        due("8: maker", f.refused(), 0);
        f.find(0, 0, 2, 0, 4);
        due("8: find refused", f.refused(), 6);
        f.find(0, 0, 1, 0, 4);
        due("8: find", f.refused(), 0);
    }

    private static void reaches() {
        MemberFinder f = new MemberFinder();
        f.newClass(NONE, 1); // 0: above
        f.newClass(0, 2);    // 1: the class of the members
        f.newClass(1, 3);    // 2: below, other package
        f.newClass(2, 3);    // 3: further below
        f.newClass(NONE, 2); // 4: same package
        f.newClass(NONE, 3); // 5: neither
        f.newClass(0, 1);    // 6: beside
        for (int rights = 0; rights < 4; rights++) {
            f.field(1, rights, false, false, rights);
        }
        String[] rows = {"0001", "1111", "0011", "0011", "0111", "0001", "0001"};
        for (int asker = 0; asker < rows.length; asker++) {
            for (int m = 0; m < 4; m++) {
                due("9: reaches(" + asker + ", " + m + ")", f.reaches(asker, m), rows[asker].charAt(m) == '1');
            }
        }
        due("9: class 7", f.reaches(7, 3), false);
        due("9: class -1", f.reaches(-1, 3), false);
        due("9: member 4", f.reaches(1, 4), false);
        due("9: member -1", f.reaches(1, -1), false);
        f.method(1, 0, 0, false, false, 0);
        f.maker(1, 0, 2);
        due("9: a private method", f.reaches(2, 4), false);
        due("9: a protected maker", f.reaches(2, 5), true);
        due("9: a protected maker, neither", f.reaches(5, 5), false);
    }

    private static void called() {
        MemberFinder f = new MemberFinder();
        f.newClass(NONE, 1);
        f.newClass(0, 1);
        f.newClass(1, 1);
        f.newClass(0, 1);
        f.method(0, 1, 0, false, false, 2); // 0
        f.method(1, 1, 0, false, false, 3); // 1
        f.method(0, 2, 0, false, false, 0); // 2
        f.method(1, 2, 0, false, false, 3); // 3
        f.method(0, 3, 0, true, false, 3);  // 4
        f.field(0, 4, false, false, 3);     // 5
        f.maker(0, 0, 3);                   // 6
        due("10: its own class", f.called(0, 0), 0);
        due("10: the class below", f.called(0, 1), 1);
        due("10: further below", f.called(0, 2), 1);
        due("10: beside", f.called(0, 3), 0);
        due("10: private", f.called(2, 2), 2);
        due("10: above private", f.called(3, 2), 3);
        due("10: class isn't below", f.called(1, 0), NONE);
        due("10: class is beside", f.called(1, 3), NONE);
        due("10: static", f.called(4, 0), NONE);
        due("10: field", f.called(5, 0), NONE);
        due("10: maker", f.called(6, 0), NONE);
        due("10: member 7", f.called(7, 0), NONE);
        due("10: member -1", f.called(-1, 0), NONE);
        due("10: class 4", f.called(0, 4), NONE);
        due("10: class -1", f.called(0, -1), NONE);
        f.method(2, 1, 1, false, false, 3);
        due("10: another type", f.called(0, 2), 1);
        f.method(2, 1, 0, false, false, 0);
        due("10: private ones override nothing", f.called(0, 2), 1);
        f.method(3, 5, 0, true, false, 3);
        f.method(0, 5, 0, false, false, 3);
        due("10: static ones override nothing", f.called(10, 3), 10);
    }

    private static void overrides() {
        MemberFinder f = new MemberFinder();
        f.newClass(NONE, 1);
        f.newClass(0, 2);
        f.newClass(1, 1);
        f.newClass(0, 1);
        for (int rights = 0; rights < 4; rights++) {
            f.method(0, rights, 0, false, false, rights);
        }
        f.method(1, 0, 0, false, false, 3); // 4
        f.method(1, 1, 0, false, false, 3); // 5
        f.method(1, 2, 0, false, false, 2); // 6
        f.method(1, 3, 0, false, false, 3); // 7
        f.method(2, 1, 0, false, false, 3); // 8
        f.method(3, 2, 0, false, false, 3); // 9
        f.method(2, 3, 0, false, false, 0); // 10
        due("11: private", f.overrides(4, 0), false);
        due("11: package, other package", f.overrides(5, 1), false);
        due("11: protected", f.overrides(6, 2), true);
        due("11: public", f.overrides(7, 3), true);
        due("11: package, same package, further down", f.overrides(8, 1), true);
        due("11: the one between", f.overrides(8, 5), true);
        due("11: upside down", f.overrides(2, 6), false);
        due("11: itself", f.overrides(3, 3), false);
        due("11: beside", f.overrides(9, 6), false);
        due("11: a private one", f.overrides(10, 3), false);
        due("11: other names", f.overrides(7, 2), false);
        f.method(1, 3, 1, false, false, 3); // 11
        due("11: other types", f.overrides(11, 3), false);
        f.method(0, 20, 0, true, false, 3);  // 12
        f.method(1, 20, 0, false, false, 3); // 13
        due("11: m is static", f.overrides(13, 12), false);
        f.method(2, 21, 0, true, false, 3);  // 14
        f.method(0, 21, 0, false, false, 3); // 15
        due("11: x is static", f.overrides(14, 15), false);
        f.field(0, 22, false, false, 3); // 16
        f.field(1, 22, false, false, 3); // 17
        due("11: fields", f.overrides(17, 16), false);
        f.maker(0, 0, 3); // 18
        f.maker(1, 0, 3); // 19
        due("11: makers", f.overrides(19, 18), false);
        due("11: member 20", f.overrides(20, 0), false);
        due("11: of member 20", f.overrides(7, 20), false);
        due("11: member -1", f.overrides(-1, 3), false);
        due("11: of member -1", f.overrides(7, -1), false);
    }

    private static void overridesThroughOthers() {
        // Packages 1, 2, 1, 2, 3 going down; the method of 2 is public, the others of package rights as yet.
        MemberFinder f = new MemberFinder();
        int[] packs = {1, 2, 1, 2, 3};
        for (int i = 0; i < packs.length; i++) {
            f.newClass(i - 1, packs[i]);
        }
        due("11: adds", f.method(0, 0, 0, false, false, 1), 0);
        due("11: adds", f.method(3, 0, 0, false, false, 3), 1);
        due("11: adds", f.method(4, 0, 0, false, false, 3), 2);
        due("11: none between yet", f.overrides(2, 0), false);
        due("10: none between yet", f.called(0, 4), 0);
        due("11: adds", f.method(2, 0, 0, false, false, 1), 3);
        due("11: the one between is not overridden", f.overrides(2, 0), false);
        due("10: only the one between", f.called(0, 4), 3);
        due("11: adds", f.method(1, 0, 0, false, false, 1), 4);
        due("11: by way of package 2", f.overrides(1, 4), true);
        due("11: below package 2", f.overrides(2, 4), true);
        due("11: two ways that don't meet", f.overrides(2, 0), false);
        due("10: two ways that don't meet", f.called(0, 4), 3);
        due("10: the other way", f.called(4, 4), 2);
        MemberFinder g = new MemberFinder();
        for (int i = 0; i < 4; i++) {
            g.newClass(i - 1, i / 2);
        }
        g.method(0, 0, 0, false, false, 1);
        g.method(1, 0, 0, false, false, 2);
        g.method(2, 0, 0, false, false, 3);
        g.method(3, 0, 0, false, false, 3);
        due("11: through a protected one", g.overrides(2, 0), true);
        due("11: through two", g.overrides(3, 0), true);
        due("10: through two", g.called(0, 3), 3);
        // A private or a static method between carries nothing on.
        MemberFinder h = new MemberFinder();
        for (int i = 0; i < 3; i++) {
            h.newClass(i - 1, i / 2);
        }
        h.method(2, 0, 0, false, false, 3);
        h.method(1, 0, 0, true, false, 3);
        h.method(0, 0, 0, false, false, 1);
        due("11: a static one between", h.overrides(0, 2), false);
        h.method(2, 1, 0, false, false, 3);
        h.method(1, 1, 0, false, false, 0);
        h.method(0, 1, 0, false, false, 1);
        due("11: a private one between", h.overrides(3, 5), false);
        h.method(2, 2, 0, false, false, 3);
        h.method(1, 2, 1, false, false, 3);
        h.method(0, 2, 0, false, false, 1);
        due("11: one of another type between", h.overrides(6, 8), false);
    }

    private static void member() {
        MemberFinder f = new MemberFinder();
        f.newClass(NONE, 1);
        f.newClass(0, 1);
        f.field(1, 7, true, false, 2);
        f.field(0, 99, false, true, 0);
        f.method(1, 8, -1, false, true, 3);
        f.method(1, 9, MOST, true, false, 1);
        f.maker(1, LEAST, 1);
        int[][] rows = {
            {1, 7, 2, 1, 0, 0, 0},
            {0, 99, 0, 0, 1, 0, 0},
            {1, 8, 3, 0, 1, 1, -1},
            {1, 9, 1, 1, 0, 1, MOST},
            {1, 0, 1, 0, 0, 2, LEAST},
        };
        for (int m = 0; m < rows.length; m++) {
            for (int what = 0; what < 7; what++) {
                due("12: member(" + m + ", " + what + ")", f.member(m, what), rows[m][what]);
            }
            due("12: what 7", f.member(m, 7), NONE);
            due("12: what -1", f.member(m, -1), NONE);
        }
        due("12: member 5", f.member(5, 0), NONE);
        due("12: member -1", f.member(-1, 0), NONE);
        due("12: member LEAST", f.member(LEAST, LEAST), NONE);
    }

    private static void seenMembers() {
        MemberFinder f = new MemberFinder();
        f.newClass(NONE, 1);
        f.newClass(0, 2);
        f.newClass(NONE, 2);
        due("13: none", f.seen(0, 0), 0);
        due("13: class 3", f.seen(0, 3), NONE);
        due("13: asker 3", f.seen(3, 0), NONE);
        due("13: class -1", f.seen(0, -1), NONE);
        due("13: asker -1", f.seen(-1, 0), NONE);
        f.maker(0, 0, 3);
        f.maker(1, 0, 3);
        f.maker(1, 1, 1);
        due("13: makers hide nothing", f.seen(1, 1), 3);
        due("13: only what is reached", f.seen(0, 1), 2);
        due("13: not those of classes below", f.seen(1, 0), 1);
        due("13: by a stranger", f.seen(2, 1), 3);
        f.method(0, 0, 0, true, false, 3);
        f.method(1, 0, 0, true, false, 3);
        due("13: static methods hide nothing", f.seen(1, 1), 5);
        f.field(1, 0, false, false, 3);
        due("13: a field hides no maker and no method", f.seen(1, 1), 6);
    }

    private static void seenFields() {
        MemberFinder f = new MemberFinder();
        f.newClass(NONE, 1);
        f.newClass(0, 2);
        f.newClass(1, 3);
        f.newClass(0, 1);
        f.field(0, 1, false, false, 3);
        f.field(2, 1, true, false, 0);
        due("13: hidden by one that is reached", f.seen(2, 2), 1);
        due("13: hidden by one that is not", f.seen(0, 2), 0);
        due("13: not hidden in the class between", f.seen(2, 1), 1);
        due("13: not hidden beside", f.seen(2, 3), 1);
        f.field(1, 1, false, false, 3);
        due("13: hidden by the next", f.seen(0, 1), 1);
        f.field(0, 2, false, false, 0);
        due("13: not reached", f.seen(1, 1), 1);
        due("13: reached by its class", f.seen(0, 1), 2);
    }

    private static void seenMethods() {
        MemberFinder f = new MemberFinder();
        f.newClass(NONE, 1);
        f.newClass(0, 2);
        f.newClass(1, 1);
        f.newClass(0, 1);
        f.method(0, 1, 0, false, false, 1);
        due("13: alone", f.seen(0, 2), 1);
        f.method(1, 1, 0, false, false, 1);
        due("13: not overridden, and the other not reached", f.seen(0, 1), 1);
        due("13: not overridden, and the other not reached", f.seen(1, 1), 1);
        f.method(2, 1, 0, false, false, 1);
        due("13: overridden in the same package", f.seen(0, 2), 1);
        due("13: only the one of package 2", f.seen(1, 2), 1);
        due("13: not overridden in the class between", f.seen(0, 1), 1);
        due("13: not overridden beside", f.seen(0, 3), 1);
        f.method(0, 2, 0, false, false, 2);
        f.method(2, 2, 0, false, false, 2);
        due("13: overridden by one that is not reached", f.seen(1, 2), 1);
        f.method(0, 3, 0, false, false, 0);
        f.method(2, 3, 0, false, false, 3);
        due("13: private ones are not overridden", f.seen(0, 2), 4);
        f.method(3, 4, 0, false, false, 0);
        f.method(0, 4, 0, false, false, 3);
        due("13: private ones override nothing", f.seen(3, 3), 4);
        f.method(3, 5, 0, true, false, 3);
        f.method(0, 5, 0, false, false, 3);
        due("13: static ones override nothing", f.seen(3, 3), 6);
    }

    private static void deepLine() {
        MemberFinder f = new MemberFinder();
        for (int i = 0; i < 40; i++) {
            f.newClass(i - 1, i / 2);
        }
        for (int i = 0; i < 40; i++) {
            dueAdded("5: overriding all above", f, f.method(i, 0, 0, false, false, i == 0 ? 1 : 2), 3 * i);
            dueAdded("5: alone in its package", f, f.method(i, 1, i % 2, false, false, 1), 3 * i + 1);
            dueAdded("5: static", f, f.method(i, 2, 0, true, false, 3), 3 * i + 2);
        }
        due("3: deep", f.below(39, 0), true);
        due("11: deep", f.overrides(117, 0), true);
        due("10: deep", f.called(0, 39), 117);
        due("10: deep, alone", f.called(1, 39), 1);
        due("13: deep", f.seen(39, 39), 1 + 2 + 40);
    }
}
