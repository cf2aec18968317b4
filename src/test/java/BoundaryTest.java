/**
 * Each sentence of the document that names a boundary case has a test of its own here; what a test
 * prints begins with its sentence. No object is called more than 512 times, but in the last test.
 */
public final class BoundaryTest {
    private static final int NONE = MemberFinder.NONE;
    private static final int LEAST = Integer.MIN_VALUE;
    private static final int MOST = Integer.MAX_VALUE;

    private static final int PRIVATE = 0;
    private static final int PACKAGE = 1;
    private static final int PROTECTED = 2;
    private static final int PUBLIC = 3;

    // The name and type of members in tests where these don't matter.
    private static final int NAME = 5;
    private static final int TYPE = 6;

    private static String sentence = "";
    private static int sentences = 0;
    private static int wrong = 0;

    private static void sentence(String text) {
        sentence = text;
        sentences++;
    }

    private static void due(String what, int got, int want) {
        if (got != want) {
            wrong++;
            System.out.println(sentence + " | " + what + " answered " + got + ", due is " + want);
        }
    }

    private static void due(String what, boolean got, boolean want) {
        due(what, got ? 1 : 0, want ? 1 : 0);
    }

    private static void dueRefused(String what, MemberFinder f, int got, int why) {
        due(what, got, NONE);
        due(what + ", refused()", f.refused(), why);
    }

    private static void dueTaken(String what, MemberFinder f, int got, int number) {
        due(what, got, number);
        due(what + ", refused()", f.refused(), 0);
    }

    /** Classes of these packages, each the parent of the next. */
    private static MemberFinder line(int... packs) {
        MemberFinder f = new MemberFinder();
        for (int i = 0; i < packs.length; i++) {
            f.newClass(i - 1, packs[i]);
        }
        return f;
    }

    /** Classes of these packages, none with a parent. */
    private static MemberFinder loose(int... packs) {
        MemberFinder f = new MemberFinder();
        for (int pack : packs) {
            f.newClass(NONE, pack);
        }
        return f;
    }

    private static int field(MemberFinder f, int of, int rights) {
        return f.field(of, NAME, false, false, rights);
    }

    private static int method(MemberFinder f, int of, int rights) {
        return f.method(of, NAME, TYPE, false, false, rights);
    }

    private static int finalMethod(MemberFinder f, int of, int rights) {
        return f.method(of, NAME, TYPE, false, true, rights);
    }

    private static int staticMethod(MemberFinder f, int of, int rights) {
        return f.method(of, NAME, TYPE, true, false, rights);
    }

    /** Numbers that are no class's and no member's where there are count of them. */
    private static int[] noneOf(int count) {
        return new int[] {LEAST, LEAST + 1, -2, -1, count, count + 1, MOST - 1, MOST};
    }

    public static void main(String[] args) {
        termsOne();
        termsTwo();
        termsThree();
        termsFour();
        promisesOneToThree();
        promisesFourToSix();
        promisesSevenAndEight();
        promisesNineToTwelve();
        promiseThirteen();
        allCalls();
        System.out.println(sentences + " sentences: "
                + (wrong == 0 ? "all answers are as due" : wrong + " answers are not as due"));
        if (wrong != 0) {
            System.exit(1);
        }
    }

    // ---- Terms 1: what there is

    private static void termsOne() {
        classesFromZero();
        fortyClasses();
        packagesOfAnyNumber();
        parentToldAhead();
        belowItself();
        belowAllAbove();
        membersInOneRow();
        twoHundredMembers();
        names();
        rights();
        makersHaveNameZero();
        typesOfAnyNumber();
        finalOnes();
    }

    private static void classesFromZero() {
        sentence("Terms 1: CLASSES are numbered from 0 on");
        MemberFinder f = new MemberFinder();
        due("the first", f.newClass(NONE, 7), 0);
        due("a refused one", f.newClass(5, 7), NONE);
        due("the second", f.newClass(NONE, 7), 1);
        due("the third", f.newClass(0, 7), 2);
        due("the first of another object", new MemberFinder().newClass(NONE, 7), 0);
    }

    private static void fortyClasses() {
        sentence("Terms 1: CLASSES .. 40 at most");
        for (int shape = 0; shape < 3; shape++) {
            MemberFinder f = new MemberFinder();
            for (int i = 0; i < 40; i++) {
                int parent = shape == 0 || i == 0 ? NONE : shape == 1 ? i - 1 : 0;
                due("class " + i, f.newClass(parent, i), i);
            }
            due("the 41st", f.newClass(NONE, 0), NONE);
            due("the 40th is there", f.below(39, 39), true);
            due("the 41st is not", f.below(40, 40), false);
            dueTaken("a field of the 40th", f, field(f, 39, PUBLIC), 0);
            dueRefused("a field of the 41st", f, field(f, 40, PUBLIC), 1);
            due("the 40th finds it", f.find(39, 39, NAME, 0, 4), 0);
            due("the 40th sees it", f.seen(39, 39), 1);
            due("the 41st sees nothing", f.seen(40, 39), NONE);
        }
    }

    private static void packagesOfAnyNumber() {
        sentence("Terms 1: a PACKAGE (any number)");
        int[] packs = {LEAST, LEAST + 1, -65536, -256, -1, 0, 1, 256, 65536, MOST - 1, MOST};
        MemberFinder f = new MemberFinder();
        for (int i = 0; i < packs.length; i++) {
            due("package " + packs[i], f.newClass(NONE, packs[i]), i);
            due("a field there", field(f, i, PACKAGE), i);
        }
        for (int i = 0; i < packs.length; i++) {
            int asker = packs.length + i;
            due("package " + packs[i] + " again", f.newClass(NONE, packs[i]), asker);
            for (int m = 0; m < packs.length; m++) {
                due("from package " + packs[i] + " to " + packs[m], f.reaches(asker, m), i == m);
            }
        }
    }

    private static void parentToldAhead() {
        sentence("Terms 1: a PARENT, a CLASS told ahead, or none");
        MemberFinder f = new MemberFinder();
        due("none", f.newClass(NONE, 0), 0);
        due("itself", f.newClass(1, 0), NONE);
        due("the first", f.newClass(0, 0), 1);
        due("the latest", f.newClass(1, 0), 2);
        due("the first again", f.newClass(0, 0), 3);
        due("none again", f.newClass(NONE, 0), 4);
        due("2 has 1", f.below(2, 1), true);
        due("3 has 0 alone", f.below(3, 0) && !f.below(3, 1) && !f.below(3, 2), true);
        due("4 has none", f.below(4, 0) || f.below(4, 1) || f.below(4, 2) || f.below(4, 3), false);
    }

    private static void belowItself() {
        sentence("Terms 1: A CLASS is BELOW itself");
        MemberFinder f = line(0, 0, 0);
        for (int c = 0; c < 3; c++) {
            due("class " + c, f.below(c, c), true);
        }
        due("one without a parent", loose(0).below(0, 0), true);
    }

    private static void belowAllAbove() {
        sentence("Terms 1: BELOW .. all that its PARENT is BELOW");
        MemberFinder f = line(new int[39]);
        f.newClass(NONE, 0);
        for (int c = 0; c < 38; c++) {
            due("the lowest of 39 and " + c, f.below(38, c), true);
            due(c + " and the lowest of 39", f.below(c, 38), false);
        }
        due("the lowest and a loose one", f.below(38, 39), false);
        due("a loose one and the uppermost", f.below(39, 0), false);
    }

    private static void membersInOneRow() {
        sentence("Terms 1: MEMBERS of CLASSES are numbered from 0 on in one row");
        MemberFinder f = loose(1, 2);
        due("a field", field(f, 1, PUBLIC), 0);
        due("a refused field", field(f, 1, PUBLIC), NONE);
        due("a maker", f.maker(0, TYPE, PUBLIC), 1);
        due("a refused maker", f.maker(0, TYPE, PUBLIC), NONE);
        due("a method", method(f, 1, PUBLIC), 2);
        due("a refused method", method(f, 1, PUBLIC), NONE);
        due("a static method", staticMethod(f, 0, PUBLIC), 3);
        due("a field of the other class", field(f, 0, PUBLIC), 4);
        due("kinds", f.member(0, 5) + 10 * f.member(1, 5) + 100 * f.member(2, 5) + 1000 * f.member(4, 5), 120);
    }

    /** Two classes, 199 fields: 100 of class 0, 99 of class 1, whose name 99 is free. */
    private static MemberFinder almostFull() {
        MemberFinder f = line(1, 1);
        for (int i = 0; i < 199; i++) {
            due("field " + i, f.field(i / 100, i % 100, false, false, PUBLIC), i);
        }
        return f;
    }

    private static void twoHundredMembers() {
        sentence("Terms 1: MEMBERS .. 200 at most");
        for (int kind = 0; kind < 3; kind++) {
            MemberFinder f = almostFull();
            due("none is 199 yet", f.member(199, 0), NONE);
            dueTaken("the 200th", f, addOfKind(f, kind), 199);
            due("its kind", f.member(199, 5), kind);
            dueRefused("the 201st, a field", f, loosePlaceFor(f, kind), 5);
            dueRefused("the 201st, a method", f, f.method(0, 1, 1, false, false, PUBLIC), 5);
            dueRefused("the 201st, a static method", f, f.method(0, 1, 1, true, false, PUBLIC), 5);
            dueRefused("the 201st, a maker", f, f.maker(0, 1, PUBLIC), 5);
            due("none is 200", f.member(200, 0), NONE);
            due("none is 200, to be reached", f.reaches(0, 200), false);
            dueRefused("the refused method", f, f.find(0, 0, 1, 1, 1), 6);
            dueRefused("the refused maker", f, f.find(0, 0, 0, 1, 3), 6);
            due("199 is still there", f.member(199, 0), 1);
            due("all that can be seen", f.seen(1, 1), kind == 0 ? 100 : 101);
        }
    }

    private static int addOfKind(MemberFinder f, int kind) {
        switch (kind) {
            case 0: return f.field(1, 99, false, false, PUBLIC);
            case 1: return method(f, 1, PUBLIC);
            default: return f.maker(1, TYPE, PUBLIC);
        }
    }

    /** A new field where there is still a free name: in a new class if both have all 100. */
    private static int loosePlaceFor(MemberFinder f, int kind) {
        int of = kind == 0 ? f.newClass(NONE, 1) : 1;
        return f.field(of, 99, false, false, PUBLIC);
    }

    private static void names() {
        sentence("Terms 1: a name (0 .. 99)");
        MemberFinder f = loose(1);
        for (int name = 0; name <= 99; name++) {
            due("a field of name " + name, f.field(0, name, false, false, PUBLIC), 2 * name);
            due("a method of name " + name, f.method(0, name, TYPE, false, false, PUBLIC), 2 * name + 1);
        }
        due("the first", f.member(0, 1), 0);
        due("the last", f.member(199, 1), 99);
        MemberFinder g = loose(1);
        for (int name : noneOf(100)) {
            dueRefused("a field of name " + name, g, g.field(0, name, false, false, PUBLIC), 2);
            dueRefused("a method of name " + name, g, g.method(0, name, TYPE, false, false, PUBLIC), 2);
            dueRefused("a static method of name " + name, g, g.method(0, name, TYPE, true, false, PUBLIC), 2);
        }
        due("none of them is there", g.seen(0, 0), 0);
    }

    private static void rights() {
        sentence("Terms 1: RIGHTS: 0 PRIVATE, 1 PACKAGE, 2 PROTECTED, 3 PUBLIC");
        MemberFinder f = loose(1);
        for (int rights = 0; rights <= 3; rights++) {
            dueTaken("a field of " + rights, f, f.field(0, rights, false, false, rights), 3 * rights);
            dueTaken("a method of " + rights, f, f.method(0, rights, 0, false, false, rights), 3 * rights + 1);
            dueTaken("a maker of " + rights, f, f.maker(0, rights, rights), 3 * rights + 2);
            for (int m = 0; m < 3; m++) {
                due("rights of " + (3 * rights + m), f.member(3 * rights + m, 2), rights);
            }
        }
        for (int rights : noneOf(4)) {
            dueRefused("a field of " + rights, f, f.field(0, 9, false, false, rights), 2);
            dueRefused("a method of " + rights, f, f.method(0, 9, 9, false, false, rights), 2);
            dueRefused("a static method of " + rights, f, f.method(0, 9, 9, true, false, rights), 2);
            dueRefused("a maker of " + rights, f, f.maker(0, 9, rights), 2);
        }
        due("none of them is there", f.seen(0, 0), 12);
    }

    private static void makersHaveNameZero() {
        sentence("Terms 1: MAKERS are not STATIC, and have the name 0");
        MemberFinder f = loose(1);
        due("a maker", f.maker(0, TYPE, PUBLIC), 0);
        due("its name", f.member(0, 1), 0);
        due("it is not static", f.member(0, 3), 0);
        due("it is not final", f.member(0, 4), 0);
        dueTaken("a field of name 0", f, f.field(0, 0, false, false, PUBLIC), 1);
        dueTaken("a method of name 0 and its type", f, f.method(0, 0, TYPE, false, false, PUBLIC), 2);
    }

    private static void typesOfAnyNumber() {
        sentence("Terms 1: METHODS and MAKERS have a TYPE, any number");
        int[] types = {LEAST, LEAST + 1, -65536, -1, 0, 1, 65536, MOST - 1, MOST};
        MemberFinder f = loose(1);
        for (int i = 0; i < types.length; i++) {
            due("a method of " + types[i], f.method(0, 1, types[i], false, false, PUBLIC), 3 * i);
            due("a static method of " + types[i], f.method(0, 2, types[i], true, false, PUBLIC), 3 * i + 1);
            due("a maker of " + types[i], f.maker(0, types[i], PUBLIC), 3 * i + 2);
        }
        for (int i = 0; i < types.length; i++) {
            due("finds the method of " + types[i], f.find(0, 0, 1, types[i], 1), 3 * i);
            due("finds the static method of " + types[i], f.find(0, 0, 2, types[i], 0), 3 * i + 1);
            due("finds the maker of " + types[i], f.find(0, 0, 0, types[i], 3), 3 * i + 2);
            for (int m = 3 * i; m < 3 * i + 3; m++) {
                due("type of " + m, f.member(m, 6), types[i]);
            }
        }
        dueRefused("a type of none", f, f.find(0, 0, 1, 2, 1), 6);
    }

    private static void finalOnes() {
        sentence("Terms 1: A FIELD, or a METHOD, may be FINAL");
        MemberFinder f = loose(1);
        for (int i = 0; i < 4; i++) {
            due("a field", f.field(0, i, i / 2 == 1, i % 2 == 1, PUBLIC), 2 * i);
            due("a method", f.method(0, i, 0, i / 2 == 1, i % 2 == 1, PUBLIC), 2 * i + 1);
        }
        for (int m = 0; m < 8; m++) {
            due(m + " is static", f.member(m, 3), m / 4);
            due(m + " is final", f.member(m, 4), m / 2 % 2);
        }
    }

    // ---- Terms 2: who reaches what. Classes: 0 above, 1 the one with the member, 2 below it, 3
    // further below, 4 beside it, 5 loose in its package, 6 loose in another, 7 below it in its package.

    private static void termsTwo() {
        sentence("Terms 2: PRIVATE: if it is d");
        reachedBy(PRIVATE, "01000000");
        sentence("Terms 2: PACKAGE: if the PACKAGES are the same");
        reachedBy(PACKAGE, "01000101");
        sentence("Terms 2: PROTECTED: if they are, or it is BELOW d");
        reachedBy(PROTECTED, "01110101");
        sentence("Terms 2: PUBLIC: always");
        reachedBy(PUBLIC, "11111111");
    }

    private static void reachedBy(int rights, String row) {
        MemberFinder f = new MemberFinder();
        int[] parents = {NONE, 0, 1, 2, 0, NONE, NONE, 2};
        int[] packs = {8, 9, 8, 7, 8, 9, 8, 9};
        for (int c = 0; c < parents.length; c++) {
            f.newClass(parents[c], packs[c]);
        }
        field(f, 1, rights);
        method(f, 1, rights);
        f.method(1, NAME, TYPE + 1, true, false, rights);
        f.maker(1, TYPE, rights);
        for (int asker = 0; asker < parents.length; asker++) {
            boolean is = row.charAt(asker) == '1';
            for (int m = 0; m < 4; m++) {
                due("reaches(" + asker + ", " + m + ")", f.reaches(asker, m), is);
            }
            due("finds the field by " + asker, f.find(asker, 1, NAME, 0, 4), is ? 0 : NONE);
            due("refused()", f.refused(), is ? 0 : 7);
            due("finds the method by " + asker, f.find(asker, 1, NAME, TYPE, 1), is ? 1 : NONE);
            due("refused()", f.refused(), is ? 0 : 7);
            due("finds the static method by " + asker, f.find(asker, 1, NAME, TYPE + 1, 0), is ? 2 : NONE);
            due("finds the maker by " + asker, f.find(asker, 1, 0, TYPE, 3), is ? 3 : NONE);
            due("seen by " + asker, f.seen(asker, 1), is ? 4 : 0);
        }
    }

    // ---- Terms 3: finding

    private static void termsThree() {
        findGoesUp();
        firstOneCounts();
        noSuchClassOrWay();
        nameNotAsTold();
        noneThere();
        notReached();
        finalToBeWritten();
        refusalsOfFindInOrder();
        wayStatic();
        wayObject();
        wayFromBelow();
        wayMaker();
        wayRead();
        wayWrite();
    }

    private static void findGoesUp() {
        sentence("Terms 3: the one that is as told, in the CLASS, then in its PARENT, and so on");
        MemberFinder f = line(new int[40]);
        field(f, 0, PUBLIC);
        dueTaken("from the lowest of 40", f, f.find(39, 39, NAME, 0, 4), 0);
        dueTaken("in the class itself", f, f.find(39, 0, NAME, 0, 4), 0);
        field(f, 20, PUBLIC);
        dueTaken("the nearer one", f, f.find(39, 39, NAME, 0, 4), 1);
        dueTaken("the nearer one, in the class itself", f, f.find(39, 20, NAME, 0, 4), 1);
        dueTaken("above the nearer one", f, f.find(39, 19, NAME, 0, 4), 0);
        field(f, 39, PUBLIC);
        dueTaken("the nearest one", f, f.find(39, 39, NAME, 0, 4), 2);
        dueTaken("above the nearest one", f, f.find(39, 38, NAME, 0, 4), 1);
    }

    private static void firstOneCounts() {
        sentence("Terms 3: 7 it isn't REACHED (the first one; a PARENT's is not looked for)");
        MemberFinder f = line(1, 2);
        method(f, 0, PUBLIC);
        method(f, 1, PRIVATE);
        field(f, 0, PUBLIC);
        field(f, 1, PRIVATE);
        dueRefused("the method", f, f.find(0, 1, NAME, TYPE, 1), 7);
        dueRefused("the field, read", f, f.find(0, 1, NAME, 0, 4), 7);
        dueRefused("the field, written", f, f.find(0, 1, NAME, 0, 5), 7);
    }

    private static void noSuchClassOrWay() {
        sentence("Terms 3: 1 no such CLASS, MEMBER or WAY");
        for (int way = 0; way <= 5; way++) {
            MemberFinder f = oneOfEach();
            for (int no : noneOf(1)) {
                dueRefused("asker " + no + ", way " + way, f, f.find(no, 0, 0, 0, way), 1);
                dueRefused("class " + no + ", way " + way, f, f.find(0, no, 0, 0, way), 1);
                dueRefused("both " + no + ", way " + way, f, f.find(no, no, 0, 0, way), 1);
            }
            dueTaken("way " + way, f, f.find(0, 0, 0, way == 0 ? 1 : 0, way), new int[] {2, 1, 1, 3, 0, 0}[way]);
        }
        MemberFinder f = oneOfEach();
        for (int way : noneOf(6)) {
            dueRefused("way " + way, f, f.find(0, 0, 0, 0, way), 1);
        }
    }

    /** One class with a field, a method, a static method of type 1 and a maker, all else 0. */
    private static MemberFinder oneOfEach() {
        MemberFinder f = loose(1);
        f.field(0, 0, false, false, PUBLIC);
        f.method(0, 0, 0, false, false, PUBLIC);
        f.method(0, 0, 1, true, false, PUBLIC);
        f.maker(0, 0, PUBLIC);
        return f;
    }

    private static void nameNotAsTold() {
        sentence("Terms 3: 2 name or RIGHTS are not as told");
        MemberFinder f = oneOfEach();
        for (int name : noneOf(100)) {
            for (int way : new int[] {0, 1, 2, 4, 5}) {
                dueRefused("name " + name + ", way " + way, f, f.find(0, 0, name, 0, way), 2);
            }
        }
        for (int way = 0; way <= 5; way++) {
            dueRefused("name 99, way " + way, f, f.find(0, 0, 99, 9, way), 6);
        }
    }

    private static void noneThere() {
        sentence("Terms 3: 6 there is none");
        MemberFinder f = line(1, 1, 1);
        for (int way = 0; way <= 5; way++) {
            dueRefused("no members, way " + way, f, f.find(1, 1, 0, 0, way), 6);
        }
        f.field(2, 0, false, false, PUBLIC);
        f.method(2, 0, 0, false, false, PUBLIC);
        f.method(2, 0, 1, true, false, PUBLIC);
        f.maker(2, 0, PUBLIC);
        for (int way = 0; way <= 5; way++) {
            dueRefused("in a class below, way " + way, f, f.find(1, 1, 0, way == 0 ? 1 : 0, way), 6);
        }
        dueRefused("another name", f, f.find(2, 2, 1, 0, 1), 6);
        dueRefused("another type", f, f.find(2, 2, 0, 2, 1), 6);
        dueRefused("a field of another name", f, f.find(2, 2, 1, 0, 4), 6);
        dueRefused("a maker of another type", f, f.find(2, 2, 0, 1, 3), 6);
    }

    private static void notReached() {
        sentence("Terms 3: 7 it isn't REACHED");
        MemberFinder f = loose(1, 2);
        f.field(0, 0, false, false, PROTECTED);
        f.method(0, 0, 0, false, false, PACKAGE);
        f.method(0, 0, 1, true, false, PRIVATE);
        f.maker(0, 0, PROTECTED);
        for (int way = 0; way <= 5; way++) {
            dueRefused("way " + way, f, f.find(1, 0, 0, way == 0 ? 1 : 0, way), 7);
        }
    }

    private static void finalToBeWritten() {
        sentence("Terms 3: 3 (WAY 5 alone) it is FINAL, and who asks is not its CLASS");
        MemberFinder f = line(1, 1, 1);
        f.newClass(NONE, 1);
        f.field(1, NAME, false, true, PUBLIC);
        f.field(1, NAME + 1, true, true, PUBLIC);
        f.field(1, NAME + 2, false, false, PUBLIC);
        for (int asker = 0; asker < 4; asker++) {
            for (int of = 1; of <= 2; of++) {
                String by = ", by " + asker + " of " + of;
                for (int m = 0; m < 3; m++) {
                    dueTaken("read " + m + by, f, f.find(asker, of, NAME + m, 0, 4), m);
                    int got = f.find(asker, of, NAME + m, 0, 5);
                    boolean is = m == 2 || asker == 1;
                    due("write " + m + by, got, is ? m : NONE);
                    due("write " + m + by + ", refused()", f.refused(), is ? 0 : 3);
                }
            }
        }
        f.method(1, NAME, TYPE, false, true, PUBLIC);
        f.method(1, NAME, TYPE + 1, true, true, PUBLIC);
        dueTaken("a final method", f, f.find(0, 1, NAME, TYPE, 1), 3);
        dueTaken("a final method from below", f, f.find(2, 1, NAME, TYPE, 2), 3);
        dueTaken("a final static method", f, f.find(0, 1, NAME, TYPE + 1, 0), 4);
    }

    private static void refusalsOfFindInOrder() {
        sentence("Terms 3: REFUSALS, in this order: 1 .. 2 .. 6 .. 7 .. 3");
        MemberFinder f = loose(1, 2);
        f.field(0, NAME, false, true, PRIVATE);
        dueRefused("asker: 1 ahead of 2", f, f.find(2, 0, 100, 0, 4), 1);
        dueRefused("class: 1 ahead of 2", f, f.find(0, 2, 100, 0, 4), 1);
        dueRefused("way: 1 ahead of 2", f, f.find(0, 0, 100, 0, 6), 1);
        dueRefused("asker: 1 ahead of 6", f, f.find(2, 0, 0, 0, 4), 1);
        dueRefused("asker: 1 ahead of 7 and 3", f, f.find(2, 0, NAME, 0, 5), 1);
        dueRefused("2 ahead of 6", f, f.find(0, 0, 100, 0, 4), 2);
        dueRefused("2 ahead of 7", f, f.find(1, 0, 100, 0, 2), 2);
        dueRefused("6 ahead of 7", f, f.find(1, 0, 0, 0, 2), 6);
        dueRefused("7 ahead of 3", f, f.find(1, 0, NAME, 0, 5), 7);
        dueTaken("none of them", f, f.find(0, 0, NAME, 0, 5), 0);
    }

    private static void wayStatic() {
        sentence("Terms 3: WAY 0 a STATIC METHOD with that TYPE");
        MemberFinder f = line(1, 1);
        staticMethod(f, 0, PUBLIC);
        method(f, 1, PRIVATE);
        dueTaken("past one that isn't static", f, f.find(0, 1, NAME, TYPE, 0), 0);
        dueRefused("another type", f, f.find(0, 1, NAME, TYPE + 1, 0), 6);
        f.method(1, NAME, TYPE + 1, false, false, PUBLIC);
        dueRefused("only one that isn't static", f, f.find(0, 1, NAME, TYPE + 1, 0), 6);
    }

    private static void wayObject() {
        sentence("Terms 3: WAY 1 a METHOD that isn't STATIC with that TYPE");
        MemberFinder f = line(1, 1);
        staticMethod(f, 1, PUBLIC);
        method(f, 0, PUBLIC);
        dueTaken("past a static one", f, f.find(0, 1, NAME, TYPE, 1), 1);
        dueRefused("another type", f, f.find(0, 1, NAME, TYPE + 1, 1), 6);
        f.method(1, NAME, TYPE + 1, true, false, PUBLIC);
        dueRefused("only a static one", f, f.find(0, 1, NAME, TYPE + 1, 1), 6);
        dueTaken("by one who isn't below", f, f.find(0, 1, NAME, TYPE, 1), 1);
    }

    private static void wayFromBelow() {
        sentence("Terms 3: WAY 2 likewise, but 7 also if who asks isn't BELOW the CLASS");
        MemberFinder f = line(1, 1, 1);
        f.newClass(0, 1);
        f.newClass(NONE, 1);
        method(f, 0, PUBLIC);
        f.method(0, NAME, TYPE + 1, true, false, PUBLIC);
        dueTaken("by the class itself", f, f.find(1, 1, NAME, TYPE, 2), 0);
        dueTaken("by one below", f, f.find(2, 1, NAME, TYPE, 2), 0);
        dueRefused("by the class of the method, above", f, f.find(0, 1, NAME, TYPE, 2), 7);
        dueRefused("by one beside, below the method's class", f, f.find(3, 1, NAME, TYPE, 2), 7);
        dueRefused("by a loose one", f, f.find(4, 1, NAME, TYPE, 2), 7);
        dueRefused("a static one", f, f.find(1, 1, NAME, TYPE + 1, 2), 6);
        for (int asker = 0; asker < 5; asker++) {
            dueTaken("way 1 by " + asker, f, f.find(asker, 1, NAME, TYPE, 1), 0);
        }
        MemberFinder g = line(1, 1);
        method(g, 0, PRIVATE);
        dueRefused("below, but not reached", g, g.find(1, 0, NAME, TYPE, 2), 7);
    }

    private static void wayMaker() {
        sentence("Terms 3: WAY 3 a MAKER with that TYPE, in the CLASS alone (the name isn't looked at)");
        MemberFinder f = line(1, 1);
        f.maker(0, TYPE, PUBLIC);
        f.method(1, 0, TYPE, false, false, PUBLIC);
        for (int name : new int[] {LEAST, -1, 0, 1, 99, 100, MOST}) {
            dueTaken("name " + name, f, f.find(1, 0, name, TYPE, 3), 0);
            dueRefused("name " + name + ", in the parent alone", f, f.find(1, 1, name, TYPE, 3), 6);
        }
        dueRefused("another type", f, f.find(1, 0, 0, TYPE + 1, 3), 6);
        dueTaken("one of its own", f, f.maker(1, TYPE, PUBLIC), 2);
        dueTaken("it is found", f, f.find(0, 1, 0, TYPE, 3), 2);
    }

    private static void wayRead() {
        sentence("Terms 3: WAY 4 a FIELD, to be read (the TYPE isn't looked at)");
        fieldOfAnyType(4);
    }

    private static void wayWrite() {
        sentence("Terms 3: WAY 5 to be written (the TYPE isn't looked at)");
        fieldOfAnyType(5);
    }

    private static void fieldOfAnyType(int way) {
        MemberFinder f = line(1, 1);
        f.field(0, 0, true, false, PUBLIC);
        f.field(0, 99, false, false, PUBLIC);
        f.method(1, 0, 0, false, false, PUBLIC);
        f.method(1, 99, 0, true, false, PUBLIC);
        f.maker(1, 0, PUBLIC);
        for (int type : new int[] {LEAST, -1, 0, 1, MOST}) {
            dueTaken("a static one, type " + type, f, f.find(1, 1, 0, type, way), 0);
            dueTaken("type " + type, f, f.find(1, 1, 99, type, way), 1);
        }
    }

    // ---- Terms 4: calling and overriding

    private static void termsFour() {
        calledPrivate();
        calledFirst();
        overridesFromBelowAlone();
        overridesNoPrivate();
        overridesPublicAndProtected();
        overridesInPackage();
        overridesThroughAnother();
        refusedWhenThere();
        refusedOverFinal();
        refusedOverGreaterRights();
        refusedStaticOverObject();
        nothingMoreIsAsked();
    }

    private static void calledPrivate() {
        sentence("Terms 4: if m is PRIVATE, m");
        MemberFinder f = line(1, 1, 1);
        method(f, 0, PRIVATE);
        method(f, 1, PUBLIC);
        method(f, 2, PUBLIC);
        due("for its class", f.called(0, 0), 0);
        due("for the class below", f.called(0, 1), 0);
        due("for the lowest class", f.called(0, 2), 0);
        due("of the one between", f.called(1, 2), 2);
    }

    private static void calledFirst() {
        sentence("Terms 4: the first METHOD, in o, then in its PARENT, and so on to the CLASS of m (m itself)");
        MemberFinder f = line(new int[40]);
        method(f, 0, PUBLIC);
        due("m itself, 39 above", f.called(0, 39), 0);
        method(f, 1, PUBLIC);
        due("the one next to m", f.called(0, 39), 1);
        method(f, 38, PUBLIC);
        due("the one next to o", f.called(0, 39), 2);
        due("for the class above it", f.called(0, 37), 1);
        method(f, 39, PUBLIC);
        due("the one in o", f.called(0, 39), 3);
        due("for the class above o", f.called(0, 38), 2);
        due("for the class of m", f.called(0, 0), 0);
        MemberFinder g = line(1, 1, 1, 1);
        method(g, 3, PRIVATE);
        staticMethod(g, 2, PUBLIC);
        g.method(1, NAME, TYPE + 1, false, false, PUBLIC);
        g.method(1, NAME + 1, TYPE, false, false, PUBLIC);
        method(g, 0, PUBLIC);
        due("past private, static and other ones", g.called(4, 3), 4);
    }

    private static void overridesFromBelowAlone() {
        sentence("Terms 4: a METHOD x of a CLASS BELOW, and other than, that of m");
        MemberFinder f = line(1, 1, 1);
        f.newClass(0, 1);
        for (int c = 0; c < 4; c++) {
            method(f, c, PUBLIC);
        }
        String[] rows = {"0000", "1000", "1100", "1000"};
        for (int x = 0; x < 4; x++) {
            for (int m = 0; m < 4; m++) {
                due("overrides(" + x + ", " + m + ")", f.overrides(x, m), rows[x].charAt(m) == '1');
            }
        }
    }

    private static void overridesNoPrivate() {
        sentence("Terms 4: OVERRIDES it if it isn't PRIVATE and m isn't");
        for (int above = PRIVATE; above <= PUBLIC; above++) {
            for (int own = PRIVATE; own <= PUBLIC; own++) {
                // The lower one is told first, so that no rights are refused.
                MemberFinder f = line(1, 1);
                due("adds", method(f, 1, own), 0);
                due("adds", method(f, 0, above), 1);
                due("rights " + own + " over " + above, f.overrides(0, 1), own != PRIVATE && above != PRIVATE);
            }
        }
    }

    private static void overridesPublicAndProtected() {
        sentence("Terms 4: if m is PUBLIC or PROTECTED");
        for (int above = PROTECTED; above <= PUBLIC; above++) {
            MemberFinder f = line(1, 2);
            method(f, 0, above);
            method(f, 1, above);
            due("rights " + above + ", other package", f.overrides(1, 0), true);
            due("it is called", f.called(0, 1), 1);
        }
    }

    private static void overridesInPackage() {
        sentence("Terms 4: m is of RIGHTS PACKAGE: if the PACKAGES of both CLASSES are the same");
        MemberFinder f = line(1, 2, 1);
        method(f, 0, PACKAGE);
        method(f, 1, PACKAGE);
        method(f, 2, PACKAGE);
        due("next below, other package", f.overrides(1, 0), false);
        due("further below, same package", f.overrides(2, 0), true);
        due("other package again", f.overrides(2, 1), false);
        due("called for the middle one", f.called(0, 1), 0);
        due("called for the lowest one", f.called(0, 2), 2);
        due("the middle one called for the lowest", f.called(1, 2), 1);
        // Whatever was asked ahead, only packages of this line count, and 0 is a package as others are.
        for (int pack : new int[] {0, 1, -1, LEAST}) {
            MemberFinder g = line(pack, pack, 7, 8, pack == 0 ? 1 : 0);
            method(g, 0, PACKAGE);
            method(g, 1, PACKAGE);
            method(g, 3, PACKAGE);
            method(g, 4, PACKAGE);
            for (int round = 0; round < 2; round++) {
                due("in package " + pack, g.overrides(1, 0), true);
                due("out of package " + pack, g.overrides(2, 1), false);
                due("out of package " + pack + ", further up", g.overrides(2, 0), false);
                due("from another one", g.overrides(3, 2) || g.overrides(3, 1) || g.overrides(3, 0), false);
            }
        }
    }

    private static void overridesThroughAnother() {
        sentence("Terms 4: or x OVERRIDES a METHOD y of a CLASS between both that OVERRIDES m");
        for (int between = PRIVATE; between <= PUBLIC; between++) {
            MemberFinder f = line(1, 1, 2);
            method(f, 0, PACKAGE);
            due("adds", method(f, 1, between), 1);
            due("adds", method(f, 2, PUBLIC), 2);
            due("through rights " + between, f.overrides(2, 0), between >= PROTECTED);
            int called = between == PRIVATE ? 0 : between == PACKAGE ? 1 : 2;
            due("called through rights " + between, f.called(0, 2), called);
        }
        MemberFinder f = line(1, 1, 2);
        method(f, 0, PACKAGE);
        due("adds", method(f, 2, PUBLIC), 1);
        due("none between", f.overrides(1, 0), false);
        due("adds", f.method(1, NAME, TYPE + 1, false, false, PUBLIC), 2);
        due("one of another type between", f.overrides(1, 0), false);
        due("adds", f.method(1, NAME + 1, TYPE, false, false, PUBLIC), 3);
        due("one of another name between", f.overrides(1, 0), false);
        due("adds", method(f, 1, PUBLIC), 4);
        due("one between", f.overrides(1, 0), true);
        throughAStaticOne();
        throughThirtyEight();
    }

    private static void throughAStaticOne() {
        // Told before the one above, or it would be refused.
        MemberFinder f = line(1, 1, 2);
        staticMethod(f, 1, PUBLIC);
        method(f, 0, PACKAGE);
        method(f, 2, PUBLIC);
        due("a static one between", f.overrides(2, 1), false);
    }

    /** Packages 0 0 1 1 2 2 ..: each pair carries on what the pair above it has. */
    private static void throughThirtyEight() {
        MemberFinder f = new MemberFinder();
        for (int i = 0; i < 40; i++) {
            f.newClass(i - 1, i / 2);
        }
        method(f, 0, PACKAGE);
        for (int i = 1; i < 40; i++) {
            due("adds " + i, method(f, i, PROTECTED), i);
        }
        due("through 38 others", f.overrides(39, 0), true);
        due("called through 38 others", f.called(0, 39), 39);
    }

    private static void refusedWhenThere() {
        sentence("Terms 4: refused (4) if its CLASS has a FIELD with its name already");
        MemberFinder f = line(1, 1);
        field(f, 0, PRIVATE);
        dueRefused("the same", f, field(f, 0, PRIVATE), 4);
        dueRefused("static, final, of other rights", f, f.field(0, NAME, true, true, PUBLIC), 4);
        dueTaken("another name", f, f.field(0, NAME + 1, false, false, PUBLIC), 1);
        dueTaken("in the class below", f, field(f, 1, PRIVATE), 2);
        sentence("Terms 4: refused (4) if its CLASS has a METHOD with its name and TYPE already");
        dueTaken("a field of that name is no method", f, method(f, 0, PUBLIC), 3);
        dueRefused("the same", f, method(f, 0, PUBLIC), 4);
        dueRefused("static, final, of other rights", f, f.method(0, NAME, TYPE, true, true, PRIVATE), 4);
        dueTaken("another name", f, f.method(0, NAME + 1, TYPE, false, false, PUBLIC), 4);
        dueTaken("another type", f, f.method(0, NAME, TYPE + 1, true, false, PUBLIC), 5);
        dueRefused("one there that is static", f, f.method(0, NAME, TYPE + 1, false, false, PUBLIC), 4);
        dueTaken("in the class below", f, method(f, 1, PUBLIC), 6);
        sentence("Terms 4: refused (4) if its CLASS has a MAKER with its TYPE already");
        dueTaken("a method of that type is no maker", f, f.maker(0, TYPE, PRIVATE), 7);
        dueRefused("the same", f, f.maker(0, TYPE, PRIVATE), 4);
        dueRefused("of other rights", f, f.maker(0, TYPE, PUBLIC), 4);
        dueTaken("another type", f, f.maker(0, TYPE + 1, PRIVATE), 8);
        dueTaken("in the class below", f, f.maker(1, TYPE, PRIVATE), 9);
    }

    private static void refusedOverFinal() {
        sentence("Terms 4: refused (8) if it would OVERRIDE a FINAL one");
        for (int own = PRIVATE; own <= PUBLIC; own++) {
            for (int above = PRIVATE; above <= own || above == PRIVATE; above++) {
                MemberFinder f = line(1, 1);
                finalMethod(f, 0, above);
                int got = method(f, 1, own);
                boolean is = own == PRIVATE || above == PRIVATE;
                due("rights " + own + " over final " + above, got, is ? 1 : NONE);
                due("refused()", f.refused(), is ? 0 : 8);
            }
        }
        MemberFinder far = line(new int[40]);
        finalMethod(far, 0, PUBLIC);
        dueRefused("39 classes below", far, method(far, 39, PUBLIC), 8);
        MemberFinder other = line(1, 2, 2);
        finalMethod(other, 0, PACKAGE);
        dueTaken("final of rights PACKAGE, other package", other, finalMethod(other, 1, PACKAGE), 1);
        dueRefused("final in its package", other, method(other, 2, PUBLIC), 8);
        MemberFinder through = line(1, 1, 2);
        method(through, 1, PUBLIC);
        finalMethod(through, 0, PACKAGE);
        dueRefused("through one between", through, method(through, 2, PUBLIC), 8);
        MemberFinder fixed = line(1, 1);
        fixed.method(0, NAME, TYPE, true, true, PUBLIC);
        dueTaken("a final static one is not overridden", fixed, method(fixed, 1, PUBLIC), 1);
    }

    private static void refusedOverGreaterRights() {
        sentence("Terms 4: refused (8) if it would OVERRIDE one with greater RIGHTS (by number)");
        for (int own = PRIVATE; own <= PUBLIC; own++) {
            for (int above = PRIVATE; above <= PUBLIC; above++) {
                MemberFinder f = line(1, 1);
                method(f, 0, above);
                int got = method(f, 1, own);
                boolean is = own == PRIVATE || own >= above;
                due("rights " + own + " over " + above, got, is ? 1 : NONE);
                due("refused()", f.refused(), is ? 0 : 8);
            }
        }
        MemberFinder far = line(1, 2, 3);
        method(far, 1, PROTECTED);
        method(far, 0, PUBLIC);
        dueRefused("as great as the nearer one, less than the further", far, method(far, 2, PROTECTED), 8);
        dueTaken("as great as both", far, method(far, 2, PUBLIC), 2);
    }

    private static void refusedStaticOverObject() {
        sentence("Terms 4: a STATIC one, if a METHOD that isn't STATIC .. is REACHED by its CLASS and not PRIVATE");
        for (int own = PRIVATE; own <= PUBLIC; own++) {
            for (int above = PRIVATE; above <= PUBLIC; above++) {
                for (int pack = 1; pack <= 2; pack++) {
                    MemberFinder f = line(1, 3, pack);
                    method(f, 0, above);
                    int got = staticMethod(f, 2, own);
                    boolean is = above == PRIVATE || (above == PACKAGE && pack == 2);
                    due("static " + own + " over " + above + " in package " + pack, got, is ? 1 : NONE);
                    due("refused()", f.refused(), is ? 0 : 8);
                }
            }
        }
        MemberFinder f = line(1, 1);
        f.method(0, NAME, TYPE, true, true, PUBLIC);
        dueTaken("over a static one", f, staticMethod(f, 1, PRIVATE), 1);
        f.method(0, NAME, TYPE + 1, false, false, PUBLIC);
        dueTaken("over another name", f, f.method(1, NAME + 1, TYPE + 1, true, false, PUBLIC), 3);
        dueTaken("over another type", f, f.method(1, NAME, TYPE + 2, true, false, PUBLIC), 4);
        MemberFinder far = line(new int[40]);
        method(far, 0, PUBLIC);
        dueRefused("39 classes below", far, staticMethod(far, 39, PUBLIC), 8);
        MemberFinder two = line(1, 2, 1);
        method(two, 0, PACKAGE);
        method(two, 1, PACKAGE);
        dueRefused("only the further one is reached", two, staticMethod(two, 2, PUBLIC), 8);
    }

    private static void nothingMoreIsAsked() {
        sentence("Terms 4: Nothing more is asked of METHODS that are there already");
        MemberFinder f = line(1, 1);
        f.method(1, 1, 0, false, false, PACKAGE);
        dueTaken("a final one above", f, f.method(0, 1, 0, false, true, PUBLIC), 1);
        due("it is overridden", f.overrides(0, 1), true);
        f.method(1, 2, 0, true, false, PUBLIC);
        dueTaken("one above a static one", f, f.method(0, 2, 0, false, false, PUBLIC), 3);
        f.method(1, 3, 0, false, false, PUBLIC);
        dueTaken("a static one above", f, f.method(0, 3, 0, true, false, PUBLIC), 5);
    }

    // ---- Promises 1 to 3

    private static void promisesOneToThree() {
        sentence("Promise 1: No CLASSES, no MEMBERS");
        for (int a : new int[] {LEAST, -1, 0, 1, 39, 40, 199, 200, MOST}) {
            MemberFinder f = new MemberFinder();
            due("refused()", f.refused(), 0);
            due("below " + a, f.below(a, a), false);
            due("reaches " + a, f.reaches(a, a), false);
            due("called " + a, f.called(a, a), NONE);
            due("overrides " + a, f.overrides(a, a), false);
            due("seen " + a, f.seen(a, a), NONE);
            for (int what = 0; what < 7; what++) {
                due("member " + a, f.member(a, what), NONE);
            }
            due("refused() after these", f.refused(), 0);
            dueRefused("find " + a, f, f.find(a, a, 0, 0, 0), 1);
            dueRefused("field " + a, f, field(f, a, PUBLIC), 1);
            dueRefused("method " + a, f, method(f, a, PUBLIC), 1);
            dueRefused("maker " + a, f, f.maker(a, TYPE, PUBLIC), 1);
        }
        sentence("Promise 2: NONE, refused, when there are 40");
        MemberFinder full = line(new int[40]);
        for (int parent : new int[] {LEAST, -2, NONE, 0, 39, 40, MOST}) {
            due("parent " + parent, full.newClass(parent, 0), NONE);
            due("it is not there", full.below(40, 40), false);
        }
        sentence("Promise 2: NONE, refused, when there is no such PARENT");
        MemberFinder f = line(0, 0);
        for (int parent : new int[] {LEAST, LEAST + 1, -3, -2, 2, 3, 39, 40, MOST - 1, MOST}) {
            due("parent " + parent, f.newClass(parent, 0), NONE);
            due("it is not there", f.below(2, 2), false);
        }
        due("a parent that is there", f.newClass(1, 0), 2);
        sentence("Promise 3: False when there are no such CLASSES");
        for (int no : noneOf(3)) {
            due("below(" + no + ", 0)", f.below(no, 0), false);
            due("below(2, " + no + ")", f.below(2, no), false);
            due("below(" + no + ", " + no + ")", f.below(no, no), false);
        }
        due("below(0, NONE), the parent it has not", f.below(0, NONE), false);
    }

    // ---- Promises 4 to 6

    private static void promisesFourToSix() {
        noSuchClassForNew();
        orderForFields();
        orderForMethods();
        orderForMakers();
        neverEight();
    }

    private static void noSuchClassForNew() {
        sentence("Promises 4, 5, 6: NONE, refused: 1");
        MemberFinder f = loose(1, 1);
        for (int no : noneOf(2)) {
            dueRefused("field of " + no, f, field(f, no, PUBLIC), 1);
            dueRefused("method of " + no, f, method(f, no, PUBLIC), 1);
            dueRefused("static method of " + no, f, staticMethod(f, no, PUBLIC), 1);
            dueRefused("maker of " + no, f, f.maker(no, TYPE, PUBLIC), 1);
        }
        due("none is there", f.member(0, 0), NONE);
    }

    /** Class 0 with a final method and a maker, class 1 below it, and 200 members in all. */
    private static MemberFinder fullOfMembers() {
        MemberFinder f = line(1, 1);
        finalMethod(f, 0, PUBLIC);
        f.maker(0, TYPE, PUBLIC);
        method(f, 1, PRIVATE);
        for (int i = 3; i < 200; i++) {
            due("field " + i, f.field(i / 100, i % 100, false, false, PUBLIC), i);
        }
        return f;
    }

    private static void orderForFields() {
        sentence("Promise 4: refused: 1, 2, 4, 5 there are 200 MEMBERS (in this order)");
        MemberFinder f = fullOfMembers();
        dueRefused("1 ahead of 2 by name", f, f.field(2, 100, false, false, PUBLIC), 1);
        dueRefused("1 ahead of 2 by rights", f, f.field(-1, NAME, false, false, 4), 1);
        dueRefused("1 ahead of 5", f, field(f, 2, PUBLIC), 1);
        dueRefused("2 by rights ahead of 4", f, field(f, 0, 4), 2);
        dueRefused("2 by name ahead of 5", f, f.field(0, 100, false, false, PUBLIC), 2);
        dueRefused("4 ahead of 5", f, field(f, 0, PUBLIC), 4);
        dueRefused("5", f, f.field(0, 0, false, false, PUBLIC), 5);
    }

    private static void orderForMethods() {
        sentence("Promise 5: refused: 1, 2, 4, 8, 5");
        MemberFinder f = fullOfMembers();
        dueRefused("1 ahead of 2 by name", f, f.method(2, -1, TYPE, false, false, PUBLIC), 1);
        dueRefused("1 ahead of 2 by rights", f, method(f, -1, -1), 1);
        dueRefused("1 ahead of 5", f, method(f, 2, PUBLIC), 1);
        dueRefused("2 by rights ahead of 4", f, method(f, 0, 4), 2);
        dueRefused("2 by rights ahead of 4 and 8", f, method(f, 1, -1), 2);
        dueRefused("2 by name ahead of 5", f, f.method(0, 100, TYPE, false, false, PUBLIC), 2);
        dueRefused("4 ahead of 8", f, method(f, 1, PUBLIC), 4);
        dueRefused("4 ahead of 8, static", f, staticMethod(f, 1, PUBLIC), 4);
        dueRefused("4 ahead of 5", f, method(f, 0, PUBLIC), 4);
        int below = f.newClass(1, 1);
        dueRefused("2 ahead of 8", f, method(f, below, 4), 2);
        dueRefused("8 ahead of 5", f, method(f, below, PUBLIC), 8);
        dueRefused("8 ahead of 5, by rights", f, method(f, below, PACKAGE), 8);
        dueRefused("8 ahead of 5, static", f, staticMethod(f, below, PUBLIC), 8);
        dueRefused("5, for a private one overrides nothing", f, method(f, below, PRIVATE), 5);
        dueRefused("5, another type", f, f.method(below, NAME, TYPE + 1, false, false, PUBLIC), 5);
        dueRefused("5, static of another type", f, f.method(below, NAME, TYPE + 1, true, false, PUBLIC), 5);
    }

    private static void orderForMakers() {
        sentence("Promise 6: refused: 1, 2, 4, 5");
        MemberFinder f = fullOfMembers();
        dueRefused("1 ahead of 2", f, f.maker(2, TYPE, 4), 1);
        dueRefused("1 ahead of 5", f, f.maker(-1, TYPE, PUBLIC), 1);
        dueRefused("2 ahead of 4", f, f.maker(0, TYPE, -1), 2);
        dueRefused("2 ahead of 5", f, f.maker(1, TYPE, 4), 2);
        dueRefused("4 ahead of 5", f, f.maker(0, TYPE, PUBLIC), 4);
        dueRefused("5", f, f.maker(1, TYPE, PUBLIC), 5);
        dueRefused("5, another type", f, f.maker(0, TYPE + 1, PUBLIC), 5);
    }

    private static void neverEight() {
        sentence("Promises 4, 6: refused: 1, 2, 4, 5 (not 8, which is for METHODS)");
        for (int isStatic = 0; isStatic < 2; isStatic++) {
            MemberFinder f = line(1, 1);
            f.method(0, 0, 0, false, true, PUBLIC);
            dueTaken("a field below a final method", f, f.field(1, 0, isStatic == 1, false, PACKAGE), 1);
            dueTaken("a maker below a final method", f, f.maker(1, 0, PACKAGE), 2);
        }
    }

    // ---- Promises 7 and 8

    private static void promisesSevenAndEight() {
        findsTheMember();
        refusedBeforeAny();
        refusedOfTheLatest();
        refusedIsLeft();
    }

    private static void findsTheMember() {
        sentence("Promise 7: FINDS: the MEMBER; NONE, refused");
        MemberFinder f = oneOfEach();
        int[] due = {NONE, 1, 1, 3, 0, 0};
        for (int way = 0; way <= 5; way++) {
            due("type 0, way " + way, f.find(0, 0, 0, 0, way), due[way]);
            due("type 0, way " + way + ", refused()", f.refused(), due[way] == NONE ? 6 : 0);
        }
        dueTaken("type 1, way 0", f, f.find(0, 0, 0, 1, 0), 2);
        MemberFinder last = almostFull();
        last.field(1, 99, false, false, PUBLIC);
        dueTaken("the last of 200", last, last.find(0, 1, 99, 0, 5), 199);
    }

    private static void refusedBeforeAny() {
        sentence("Promise 8: 0 .. before");
        MemberFinder f = new MemberFinder();
        due("of a new object", f.refused(), 0);
        f.newClass(3, 0);
        due("after a newClass that is refused", f.refused(), 0);
        f.newClass(NONE, 0);
        due("after a newClass", f.refused(), 0);
    }

    private static void refusedOfTheLatest() {
        sentence("Promise 8: The refusal of the latest field(), method(), maker() or find(); 0 if it was none");
        MemberFinder f = line(1, 2);
        field(f, 9, PUBLIC);
        due("field, 1", f.refused(), 1);
        f.maker(0, TYPE, 4);
        due("maker, 2", f.refused(), 2);
        f.find(0, 0, 0, 0, 4);
        due("find, 6", f.refused(), 6);
        finalMethod(f, 0, PUBLIC);
        due("method, none", f.refused(), 0);
        method(f, 1, PUBLIC);
        due("method, 8", f.refused(), 8);
        f.field(0, NAME, false, true, PROTECTED);
        due("field, none", f.refused(), 0);
        field(f, 0, PUBLIC);
        due("field, 4", f.refused(), 4);
        f.find(1, 1, NAME, 0, 5);
        due("find, 3", f.refused(), 3);
        f.maker(0, TYPE, PRIVATE);
        due("maker, none", f.refused(), 0);
        f.find(1, 0, 0, TYPE, 3);
        due("find, 7", f.refused(), 7);
        f.find(0, 0, 0, TYPE, 3);
        due("find, none", f.refused(), 0);
    }

    private static void refusedIsLeft() {
        sentence("Promise 8: .. of the latest field(), method(), maker() or find() (other calls leave it)");
        for (int why = 0; why < 2; why++) {
            MemberFinder f = line(1, 1);
            method(f, 0, PUBLIC);
            due("a field", field(f, 0, why == 0 ? PUBLIC : 4), why == 0 ? 1 : NONE);
            int due = why == 0 ? 0 : 2;
            for (int n = -1; n < 4; n++) {
                f.newClass(n, n);
                due("after newClass " + n, f.refused(), due);
                f.below(n, n);
                due("after below " + n, f.refused(), due);
                f.reaches(n, n);
                due("after reaches " + n, f.refused(), due);
                f.called(n, n);
                due("after called " + n, f.refused(), due);
                f.overrides(n, n);
                due("after overrides " + n, f.refused(), due);
                f.member(n, n);
                due("after member " + n, f.refused(), due);
                f.seen(n, n);
                due("after seen " + n, f.refused(), due);
            }
        }
    }

    // ---- Promises 9 to 12

    private static void promisesNineToTwelve() {
        reachesNoSuchOnes();
        calledNoSuchOnes();
        calledNoObjectMethod();
        calledNotBelow();
        overridesNoSuchOnes();
        overridesNoObjectMethods();
        overridesOtherNameOrType();
        memberOfEachWhat();
        memberNoneSuch();
        memberOfTypeNone();
    }

    private static void reachesNoSuchOnes() {
        sentence("Promise 9: False when there are no such ones");
        MemberFinder f = loose(1, 1);
        due("no member yet", f.reaches(0, 0), false);
        field(f, 0, PUBLIC);
        due("a member", f.reaches(1, 0), true);
        for (int no : noneOf(2)) {
            due("class " + no, f.reaches(no, 0), false);
        }
        for (int no : noneOf(1)) {
            due("member " + no, f.reaches(0, no), false);
            due("neither " + no, f.reaches(no == 1 ? 2 : no, no), false);
        }
    }

    private static void calledNoSuchOnes() {
        sentence("Promise 10: NONE when there are no such ones");
        MemberFinder f = line(1, 1);
        due("no method yet", f.called(0, 0), NONE);
        method(f, 0, PUBLIC);
        method(f, 1, PUBLIC);
        due("a method", f.called(0, 1), 1);
        for (int no : noneOf(2)) {
            due("method " + no, f.called(no, 0), NONE);
            due("class " + no, f.called(0, no), NONE);
            due("neither " + no, f.called(no, no), NONE);
        }
    }

    private static void calledNoObjectMethod() {
        sentence("Promise 10: NONE when .. it is no METHOD that isn't STATIC");
        for (int rights = PRIVATE; rights <= PUBLIC; rights++) {
            MemberFinder f = line(1, 1);
            field(f, 0, rights);
            f.maker(0, TYPE, rights);
            staticMethod(f, 0, rights);
            method(f, 1, PUBLIC);
            for (int of = 0; of < 2; of++) {
                due("a field for " + of, f.called(0, of), NONE);
                due("a maker for " + of, f.called(1, of), NONE);
                due("a static method for " + of, f.called(2, of), NONE);
            }
        }
    }

    private static void calledNotBelow() {
        sentence("Promise 10: NONE when .. the CLASS isn't BELOW its CLASS");
        for (int rights = PRIVATE; rights <= PUBLIC; rights++) {
            MemberFinder f = line(1, 1, 1);
            f.newClass(0, 1);
            f.newClass(NONE, 1);
            method(f, 1, rights);
            due("above", f.called(0, 0), NONE);
            due("the class itself", f.called(0, 1), 0);
            due("below", f.called(0, 2), 0);
            due("beside", f.called(0, 3), NONE);
            due("loose", f.called(0, 4), NONE);
        }
    }

    private static void overridesNoSuchOnes() {
        sentence("Promise 11: False when there are no such METHODS");
        MemberFinder f = line(1, 1);
        due("no method yet", f.overrides(1, 0), false);
        method(f, 0, PUBLIC);
        method(f, 1, PUBLIC);
        due("two methods", f.overrides(1, 0), true);
        for (int no : noneOf(2)) {
            due("x is " + no, f.overrides(no, 0), false);
            due("m is " + no, f.overrides(1, no), false);
            due("both are " + no, f.overrides(no, no), false);
        }
    }

    private static void overridesNoObjectMethods() {
        sentence("Promise 11: False when there are no such METHODS that aren't STATIC");
        MemberFinder f = line(1, 1);
        f.field(0, 0, false, false, PUBLIC);
        f.field(1, 0, false, false, PUBLIC);
        due("fields", f.overrides(1, 0), false);
        f.maker(0, 0, PUBLIC);
        f.maker(1, 0, PUBLIC);
        due("makers", f.overrides(3, 2), false);
        f.method(0, 0, 0, true, false, PUBLIC);
        f.method(1, 0, 0, false, false, PUBLIC);
        due("of a static one", f.overrides(5, 4), false);
        due("a method of a maker", f.overrides(5, 2), false);
        due("a method of a field", f.overrides(5, 0), false);
        f.method(1, 1, 0, true, false, PUBLIC);
        f.method(0, 1, 0, false, false, PUBLIC);
        due("a static one", f.overrides(6, 7), false);
        f.method(0, 2, 0, true, false, PUBLIC);
        f.method(1, 2, 0, true, false, PUBLIC);
        due("both static", f.overrides(9, 8), false);
        f.method(0, 0, 1, false, false, PUBLIC);
        f.maker(1, 1, PUBLIC);
        f.field(1, 1, false, false, PUBLIC);
        due("a maker of a method", f.overrides(11, 10), false);
        due("a field of a method", f.overrides(12, 7), false);
        besideAMethodOfThatNameAndType();
    }

    private static void besideAMethodOfThatNameAndType() {
        MemberFinder f = line(1, 1);
        for (int c = 0; c < 2; c++) {
            f.field(c, 0, false, false, PUBLIC);
            f.maker(c, 0, PUBLIC);
            f.method(c, 0, 0, false, false, PUBLIC);
        }
        for (int x = 3; x < 6; x++) {
            for (int m = 0; m < 3; m++) {
                due("overrides(" + x + ", " + m + ")", f.overrides(x, m), x == 5 && m == 2);
            }
        }
    }

    private static void overridesOtherNameOrType() {
        sentence("Promise 11: False when there are no such METHODS .. with one name and TYPE");
        MemberFinder f = line(1, 1);
        f.method(0, 0, 0, false, false, PUBLIC);
        f.method(1, 1, 0, false, false, PUBLIC);
        f.method(1, 0, 1, false, false, PUBLIC);
        f.method(1, 99, MOST, false, false, PUBLIC);
        due("another name", f.overrides(1, 0), false);
        due("another type", f.overrides(2, 0), false);
        due("both", f.overrides(3, 0), false);
        // Here the class of m has one that x does override.
        f.method(0, 1, 0, false, false, PUBLIC);
        due("another name, though one is overridden there", f.overrides(1, 0), false);
        due("that one", f.overrides(1, 4), true);
        f.method(0, 0, 1, false, false, PUBLIC);
        due("another type, though one is overridden there", f.overrides(2, 0), false);
        due("that one", f.overrides(2, 5), true);
    }

    private static void memberOfEachWhat() {
        sentence("Promise 12: its CLASS (what 0), name (1), RIGHTS (2), STATIC (3), FINAL (4), kind (5), TYPE (6; 0 of a FIELD)");
        MemberFinder f = line(new int[40]);
        f.field(39, 99, true, false, PROTECTED);
        f.method(38, 98, MOST, false, true, PACKAGE);
        f.maker(37, LEAST, PUBLIC);
        int[][] rows = {{39, 99, 2, 1, 0, 0, 0}, {38, 98, 1, 0, 1, 1, MOST}, {37, 0, 3, 0, 0, 2, LEAST}};
        for (int m = 0; m < rows.length; m++) {
            for (int what = 0; what < 7; what++) {
                due("member(" + m + ", " + what + ")", f.member(m, what), rows[m][what]);
            }
        }
    }

    private static void memberNoneSuch() {
        sentence("Promise 12: NONE when there is none such");
        MemberFinder f = loose(1);
        field(f, 0, PUBLIC);
        method(f, 0, PUBLIC);
        f.maker(0, TYPE, PUBLIC);
        for (int what = 0; what < 7; what++) {
            for (int no : noneOf(3)) {
                due("member(" + no + ", " + what + ")", f.member(no, what), NONE);
            }
        }
        for (int m = 0; m < 3; m++) {
            for (int no : noneOf(7)) {
                due("member(" + m + ", " + no + ")", f.member(m, no), NONE);
            }
        }
    }

    private static void memberOfTypeNone() {
        sentence("Promise 12: (A TYPE may be -1, too.)");
        MemberFinder f = line(1, 1);
        dueTaken("a method", f, f.method(0, 1, -1, false, false, PUBLIC), 0);
        dueTaken("a static method", f, f.method(0, 2, -1, true, false, PUBLIC), 1);
        dueTaken("a maker", f, f.maker(0, -1, PUBLIC), 2);
        for (int m = 0; m < 3; m++) {
            due("type of " + m, f.member(m, 6), -1);
        }
        dueTaken("finds the method", f, f.find(0, 0, 1, -1, 1), 0);
        dueTaken("finds the static method", f, f.find(0, 0, 2, -1, 0), 1);
        dueTaken("finds the maker", f, f.find(0, 0, 0, -1, 3), 2);
        dueRefused("another maker of that type", f, f.maker(0, -1, PUBLIC), 4);
        dueTaken("a method below", f, f.method(1, 1, -1, false, false, PUBLIC), 3);
        due("it overrides", f.overrides(3, 0), true);
        due("it is called", f.called(0, 1), 3);
    }

    // ---- Promise 13

    private static void promiseThirteen() {
        seenNoSuchClasses();
        seenWithoutMembers();
        seenOfParents();
        seenPastHiddenFields();
        seenPastHiddenMethods();
        seenMakersAndStatics();
    }

    private static void seenNoSuchClasses() {
        sentence("Promise 13: NONE when there are no such CLASSES");
        MemberFinder f = loose(1, 1);
        field(f, 0, PUBLIC);
        for (int no : noneOf(2)) {
            due("asker " + no, f.seen(no, 0), NONE);
            due("class " + no, f.seen(0, no), NONE);
            due("both " + no, f.seen(no, no), NONE);
        }
    }

    private static void seenWithoutMembers() {
        sentence("Promise 13: How many MEMBERS of a CLASS (one without MEMBERS)");
        MemberFinder f = line(1, 1, 1);
        f.newClass(NONE, 1);
        due("no members at all", f.seen(0, 0), 0);
        due("no members at all, of a line", f.seen(0, 2), 0);
        field(f, 1, PUBLIC);
        due("only a class below has one", f.seen(0, 0), 0);
        due("only the parent has one", f.seen(0, 2), 1);
        due("a loose class", f.seen(1, 3), 0);
    }

    private static void seenOfParents() {
        sentence("Promise 13: MEMBERS of a CLASS and its PARENTS a CLASS REACHES");
        MemberFinder f = line(new int[39]);
        int stranger = f.newClass(NONE, 1);
        for (int c = 0; c < 39; c++) {
            for (int rights = PRIVATE; rights <= PUBLIC; rights++) {
                f.maker(c, rights, rights);
            }
        }
        for (int c = 0; c < 39; c++) {
            due("of " + c + " by the uppermost", f.seen(0, c), 3 * (c + 1) + 1);
            due("of the lowest by " + c, f.seen(c, 38), 3 * 39 + 1);
            due("of " + c + " by a stranger", f.seen(stranger, c), c + 1);
        }
    }

    private static void seenPastHiddenFields() {
        sentence("Promise 13: FIELDS by a FIELD of the same name that comes ahead (REACHED or not)");
        for (int rights = PRIVATE; rights <= PUBLIC; rights++) {
            for (int isStatic = 0; isStatic < 2; isStatic++) {
                MemberFinder f = line(1, 2, 3);
                f.newClass(0, 1);
                field(f, 0, PUBLIC);
                f.field(1, NAME, isStatic == 1, false, rights);
                due("hidden by rights " + rights, f.seen(0, 1), rights == PUBLIC ? 1 : 0);
                due("hidden, further below", f.seen(0, 2), rights == PUBLIC ? 1 : 0);
                due("by the hiding class", f.seen(1, 2), 1);
                due("in the class above", f.seen(1, 0), 1);
                due("in the class beside", f.seen(1, 3), 1);
            }
        }
        MemberFinder f = line(1, 1);
        field(f, 0, PUBLIC);
        f.field(1, NAME + 1, false, false, PUBLIC);
        method(f, 1, PUBLIC);
        f.method(1, NAME, 0, true, false, PUBLIC);
        due("not by another name, not by methods", f.seen(0, 1), 4);
        f.field(0, 0, false, false, PUBLIC);
        f.maker(1, 0, PUBLIC);
        due("not by a maker", f.seen(0, 1), 6);
        MemberFinder all = line(new int[40]);
        for (int c = 0; c < 40; c++) {
            field(all, c, PUBLIC);
        }
        due("one of 40", all.seen(0, 39), 1);
    }

    private static void seenPastHiddenMethods() {
        sentence("Promise 13: METHODS that aren't STATIC by one of these CLASSES that OVERRIDES them");
        MemberFinder f = line(1, 2, 1);
        method(f, 0, PROTECTED);
        method(f, 2, PROTECTED);
        due("of the class between", f.seen(0, 1), 1);
        due("of the lowest class", f.seen(0, 2), 1);
        due("overridden by one that isn't reached", f.seen(1, 2), 0);
        MemberFinder g = line(1, 2, 1);
        method(g, 0, PACKAGE);
        method(g, 1, PUBLIC);
        due("not overridden, other package", g.seen(0, 1), 2);
        method(g, 2, PUBLIC);
        due("both overridden", g.seen(0, 2), 1);
        due("not so in the class between", g.seen(0, 1), 2);
        MemberFinder h = line(1, 1);
        method(h, 1, PRIVATE);
        method(h, 0, PUBLIC);
        due("a private one overrides nothing", h.seen(1, 1), 2);
        MemberFinder i = line(1, 1);
        method(i, 0, PRIVATE);
        method(i, 1, PUBLIC);
        due("a private one isn't overridden", i.seen(0, 1), 2);
        MemberFinder all = line(new int[40]);
        for (int c = 0; c < 40; c++) {
            method(all, c, PUBLIC);
        }
        due("one of 40", all.seen(0, 39), 1);
    }

    private static void seenMakersAndStatics() {
        sentence("Promise 13: HIDDEN .. FIELDS .. METHODS that aren't STATIC (others never are)");
        MemberFinder f = line(1, 1);
        for (int c = 0; c < 2; c++) {
            staticMethod(f, c, PUBLIC);
            f.maker(c, TYPE, PUBLIC);
        }
        due("static methods and makers", f.seen(0, 1), 4);
        f.method(1, 0, TYPE, false, false, PUBLIC);
        due("a maker by a method of name 0", f.seen(0, 1), 5);
        f.method(0, 0, TYPE, false, false, PUBLIC);
        due("a maker beside a method of name 0 that is overridden", f.seen(0, 1), 5);
        f.method(0, NAME, TYPE + 1, true, false, PUBLIC);
        f.method(1, NAME, TYPE + 1, false, false, PUBLIC);
        due("a static one by one that isn't", f.seen(0, 1), 7);
        f.method(1, NAME, TYPE + 2, true, false, PUBLIC);
        f.method(0, NAME, TYPE + 2, false, false, PUBLIC);
        due("one that isn't by a static one", f.seen(0, 1), 9);
    }

    // ---- What holds for all calls

    private static void allCalls() {
        refusedCallsChangeNothing();
        answersUpToTheLastCall();
        nothingIsThrown();
    }

    private static void refusedCallsChangeNothing() {
        sentence("Promises 2, 4 to 7: NONE, refused (and nothing else is changed)");
        for (int which = 0; which < 15; which++) {
            MemberFinder f = smallWorld();
            String before = picture(f);
            due("call " + which + " is refused", refusedCall(f, which), NONE);
            if (!picture(f).equals(before)) {
                wrong++;
                System.out.println(sentence + " | call " + which + " changes answers");
            }
            due("the next class after call " + which, f.newClass(NONE, 0), 3);
            due("the next member after call " + which, f.maker(3, 0, PUBLIC), 6);
        }
    }

    private static MemberFinder smallWorld() {
        MemberFinder f = line(1, 2, 1);
        field(f, 0, PACKAGE);
        finalMethod(f, 0, PROTECTED);
        f.method(1, NAME, TYPE + 1, false, false, PUBLIC);
        f.method(2, NAME, TYPE + 1, false, false, PUBLIC);
        f.method(1, NAME, TYPE + 2, true, false, PUBLIC);
        f.maker(2, TYPE, PRIVATE);
        return f;
    }

    private static int refusedCall(MemberFinder f, int which) {
        switch (which) {
            case 0: return f.newClass(3, 1);
            case 1: return f.newClass(-2, 1);
            case 2: return field(f, 3, PUBLIC);
            case 3: return f.field(1, 100, false, false, PUBLIC);
            case 4: return field(f, 1, 4);
            case 5: return field(f, 0, PUBLIC);
            case 6: return f.method(3, 1, 1, false, false, PUBLIC);
            case 7: return f.method(1, -1, 1, false, false, PUBLIC);
            case 8: return f.method(1, NAME, TYPE + 1, true, false, PUBLIC);
            case 9: return method(f, 2, PUBLIC);
            case 10: return staticMethod(f, 2, PUBLIC);
            case 11: return f.maker(3, 1, PUBLIC);
            case 12: return f.maker(1, 1, -1);
            case 13: return f.maker(2, TYPE, PUBLIC);
            default: return f.find(0, 2, NAME, 0, 6);
        }
    }

    /** What the calls that change nothing answer, for three classes and six members and one past them. */
    private static String picture(MemberFinder f) {
        StringBuilder all = new StringBuilder();
        for (int a = 0; a <= 3; a++) {
            for (int b = 0; b <= 3; b++) {
                all.append(f.below(a, b)).append(f.seen(a, b)).append(' ');
            }
            for (int m = 0; m <= 6; m++) {
                all.append(f.reaches(a, m)).append(f.called(m, a)).append(' ');
            }
        }
        for (int m = 0; m <= 6; m++) {
            for (int n = 0; n <= 6; n++) {
                all.append(f.overrides(m, n)).append(f.member(m, n)).append(' ');
            }
        }
        return all.toString();
    }

    private static void answersUpToTheLastCall() {
        sentence("What it is: An object is used for at most 512 calls");
        MemberFinder f = new MemberFinder();
        int calls = 0;
        for (int c = 0; c < 40; c++) {
            due("class " + c, f.newClass(c - 1, c / 2), c);
            calls++;
        }
        for (int m = 0; m < 200; m++) {
            due("member " + m, f.method(m % 40, m / 40, 0, false, false, PROTECTED), m);
            calls++;
        }
        while (calls < 508) {
            due("refused at call " + calls, f.field(0, 0, false, false, PUBLIC), NONE);
            calls++;
        }
        due("call 509", f.refused(), 5);
        due("call 510", f.seen(39, 39), 5);
        due("call 511", f.called(0, 39), 39);
        due("call 512", f.find(0, 38, 4, 0, 1), NONE);
    }

    /** Every call with numbers far out, in states from empty to full and beyond 512 calls; it need only end. */
    private static void nothingIsThrown() {
        sentence("LANGUAGE.md 7: No call may ever throw, for any arguments in any state");
        MemberFinder f = new MemberFinder();
        int[] far = {LEAST, LEAST + 1, -2, -1, 0, 1, 2, 3, 6, 39, 40, 99, 100, 199, 200, MOST - 1, MOST};
        for (int round = 0; round < 60; round++) {
            for (int a : far) {
                for (int b : far) {
                    f.newClass(a, b);
                    f.below(a, b);
                    f.field(a, b, round % 2 == 0, round % 3 == 0, round % 4);
                    f.method(a, b, a, round % 2 == 0, round % 3 == 0, round % 4);
                    f.method(a, round, b, round % 2 == 0, false, b);
                    f.maker(a, round, b);
                    f.find(a, b, round, a, round % 7);
                    f.find(round % 40, b, a, b, a);
                    f.reaches(a, b);
                    f.called(a, b);
                    f.overrides(a, b);
                    f.member(a, b);
                    f.seen(a, b);
                    f.refused();
                }
            }
        }
        due("it still answers", f.below(0, 0), true);
    }
}
