/**
 * Classes with parents and packages, their fields, methods and makers with rights: who reaches
 * what, what is found by name, type and way, what is called for an object, what hides what.
 */
public final class MemberFinder {
    public static final int NONE = -1;

    private static final int MOST_CLASSES = 40;
    private static final int MOST_MEMBERS = 200;
    private static final int GREATEST_NAME = 99;

    private static final int PRIVATE = 0;
    private static final int PACKAGE = 1;
    private static final int PROTECTED = 2;
    private static final int PUBLIC = 3;

    private static final int FIELD = 0;
    private static final int METHOD = 1;
    private static final int MAKER = 2;

    // Makers have no name of their own, fields no type: one value stands for each of them, so that
    // kind, name and type together tell one member of a class from every other.
    private static final int NAME_OF_MAKERS = 0;
    private static final int TYPE_OF_FIELDS = 0;

    private static final int WAY_STATIC = 0;
    private static final int WAY_FROM_BELOW = 2;
    private static final int WAY_MAKE = 3;
    private static final int WAY_READ = 4;
    private static final int WAY_WRITE = 5;

    private static final int NOT_REFUSED = 0;
    private static final int NO_SUCH_ONE = 1;
    private static final int NOT_AS_TOLD = 2;
    private static final int FINAL_FOR_OTHERS = 3;
    private static final int THERE_ALREADY = 4;
    private static final int FULL = 5;
    private static final int NOT_FOUND = 6;
    private static final int NOT_REACHED = 7;
    private static final int WRONG_OVERRIDE = 8;

    private final ClassInfo[] classes;
    private int classCount;
    private final MemberInfo[] members;
    private int memberCount;
    private int refusal;

    // Filled anew by each overridesMethod(); kept so that no call has to make one.
    private final int[] linePacks;

    public MemberFinder() {
        classes = new ClassInfo[MOST_CLASSES];
        members = new MemberInfo[MOST_MEMBERS];
        linePacks = new int[MOST_CLASSES];
        classCount = 0;
        memberCount = 0;
        refusal = NOT_REFUSED;
    }

    public int newClass(int parent, int pack) {
        ClassInfo above = classAt(parent);
        if (classCount >= MOST_CLASSES || (above == null && parent != NONE)) {
            return NONE;
        }
        int number = classCount;
        classes[number] = new ClassInfo(number, above, pack);
        classCount++;
        return number;
    }

    public boolean below(int a, int b) {
        ClassInfo lower = classAt(a);
        ClassInfo upper = classAt(b);
        return lower != null && upper != null && lower.isBelow(upper);
    }

    public int field(int of, int name, boolean isStatic, boolean isFinal, int rights) {
        ClassInfo home = classAt(of);
        if (home == null) {
            return refuse(NO_SUCH_ONE);
        }
        return add(home, new MemberInfo(home, FIELD, name, TYPE_OF_FIELDS, isStatic, isFinal, rights));
    }

    public int method(int of, int name, int type, boolean isStatic, boolean isFinal, int rights) {
        ClassInfo home = classAt(of);
        if (home == null) {
            return refuse(NO_SUCH_ONE);
        }
        return add(home, new MemberInfo(home, METHOD, name, type, isStatic, isFinal, rights));
    }

    public int maker(int of, int type, int rights) {
        ClassInfo home = classAt(of);
        if (home == null) {
            return refuse(NO_SUCH_ONE);
        }
        return add(home, new MemberInfo(home, MAKER, NAME_OF_MAKERS, type, false, false, rights));
    }

    public int find(int asker, int of, int name, int type, int way) {
        ClassInfo who = classAt(asker);
        ClassInfo start = classAt(of);
        if (who == null || start == null || way < WAY_STATIC || way > WAY_WRITE) {
            return refuse(NO_SUCH_ONE);
        }
        if (way != WAY_MAKE && !isName(name)) {
            return refuse(NOT_AS_TOLD);
        }
        MemberInfo found = firstAsTold(start, name, type, way);
        if (found == null) {
            return refuse(NOT_FOUND);
        }
        if (!found.isReachedBy(who) || (way == WAY_FROM_BELOW && !who.isBelow(start))) {
            return refuse(NOT_REACHED);
        }
        if (way == WAY_WRITE && found.isFinal && who != found.home) {
            return refuse(FINAL_FOR_OTHERS);
        }
        refusal = NOT_REFUSED;
        return found.number;
    }

    public int refused() {
        return refusal;
    }

    public boolean reaches(int asker, int member) {
        ClassInfo who = classAt(asker);
        MemberInfo what = memberAt(member);
        return who != null && what != null && what.isReachedBy(who);
    }

    public int called(int method, int of) {
        MemberInfo m = memberAt(method);
        ClassInfo start = classAt(of);
        if (m == null || start == null || !m.isObjectMethod() || !start.isBelow(m.home)) {
            return NONE;
        }
        return calledMethod(m, start).number;
    }

    public boolean overrides(int x, int m) {
        MemberInfo lower = memberAt(x);
        MemberInfo upper = memberAt(m);
        if (lower == null || upper == null || !lower.isObjectMethod() || !upper.isObjectMethod()) {
            return false;
        }
        return lower.name == upper.name && lower.type == upper.type && overridesMethod(lower, upper);
    }

    public int member(int member, int what) {
        MemberInfo m = memberAt(member);
        if (m == null) {
            return NONE;
        }
        switch (what) {
            case 0: return m.home.number;
            case 1: return m.name;
            case 2: return m.rights;
            case 3: return m.isStatic ? 1 : 0;
            case 4: return m.isFinal ? 1 : 0;
            case 5: return m.kind;
            case 6: return m.type;
            default: return NONE;
        }
    }

    public int seen(int asker, int of) {
        ClassInfo who = classAt(asker);
        ClassInfo start = classAt(of);
        if (who == null || start == null) {
            return NONE;
        }
        int count = 0;
        for (ClassInfo c = start; c != null; c = c.parent) {
            for (MemberInfo m = c.latest; m != null; m = m.earlier) {
                if (m.isReachedBy(who) && !isHidden(m, start)) {
                    count++;
                }
            }
        }
        return count;
    }

    private ClassInfo classAt(int number) {
        return number >= 0 && number < classCount ? classes[number] : null;
    }

    private MemberInfo memberAt(int number) {
        return number >= 0 && number < memberCount ? members[number] : null;
    }

    private static boolean isName(int name) {
        return name >= 0 && name <= GREATEST_NAME;
    }

    private static boolean isRights(int rights) {
        return rights >= PRIVATE && rights <= PUBLIC;
    }

    private int refuse(int why) {
        refusal = why;
        return NONE;
    }

    private int add(ClassInfo home, MemberInfo made) {
        refusal = refusalOfNew(home, made);
        if (refusal != NOT_REFUSED) {
            return NONE;
        }
        made.number = memberCount;
        made.earlier = home.latest;
        home.latest = made;
        members[memberCount] = made;
        memberCount++;
        return made.number;
    }

    private int refusalOfNew(ClassInfo home, MemberInfo made) {
        if (!isName(made.name) || !isRights(made.rights)) {
            return NOT_AS_TOLD;
        }
        if (home.own(made.kind, made.name, made.type) != null) {
            return THERE_ALREADY;
        }
        if (made.kind == METHOD && isForbiddenFromAbove(home, made)) {
            return WRONG_OVERRIDE;
        }
        return memberCount >= MOST_MEMBERS ? FULL : NOT_REFUSED;
    }

    private boolean isForbiddenFromAbove(ClassInfo home, MemberInfo made) {
        for (ClassInfo c = home.parent; c != null; c = c.parent) {
            MemberInfo m = c.ownObjectMethod(made.name, made.type);
            if (m == null || m.rights == PRIVATE) {
                continue;
            }
            boolean isForbidden = made.isStatic
                    ? m.isReachedBy(home)
                    : (m.isFinal || m.rights > made.rights) && overridesMethod(made, m);
            if (isForbidden) {
                return true;
            }
        }
        return false;
    }

    private static MemberInfo firstAsTold(ClassInfo start, int name, int type, int way) {
        if (way == WAY_MAKE) {
            return start.own(MAKER, NAME_OF_MAKERS, type);
        }
        for (ClassInfo c = start; c != null; c = c.parent) {
            MemberInfo m = way >= WAY_READ ? c.own(FIELD, name, TYPE_OF_FIELDS) : c.own(METHOD, name, type);
            if (m != null && (m.kind == FIELD || m.isStatic == (way == WAY_STATIC))) {
                return m;
            }
        }
        return null;
    }

    /**
     * Whether x overrides m, where both are object methods of one name and type. Going up from x,
     * it keeps the packages of x and of all that x overrides on the way: a method of package rights
     * is overridden by x if one of these has its package, for that one overrides it, and x that one.
     */
    private boolean overridesMethod(MemberInfo x, MemberInfo m) {
        if (x.rights == PRIVATE || m.rights == PRIVATE) {
            return false;
        }
        linePacks[0] = x.home.pack;
        int count = 1;
        for (ClassInfo c = x.home.parent; c != null; c = c.parent) {
            MemberInfo y = c.ownObjectMethod(x.name, x.type);
            boolean isOverridden = y != null && isOverriddenByLine(y, count);
            if (c == m.home) {
                return isOverridden;
            }
            if (isOverridden && count < linePacks.length) {
                linePacks[count] = c.pack;
                count++;
            }
        }
        return false;
    }

    private boolean isOverriddenByLine(MemberInfo y, int count) {
        if (y.rights != PACKAGE) {
            return y.rights != PRIVATE;
        }
        for (int i = 0; i < count; i++) {
            if (linePacks[i] == y.home.pack) {
                return true;
            }
        }
        return false;
    }

    /** The method that is called by way of m for an object of the class, which is below m's. */
    private MemberInfo calledMethod(MemberInfo m, ClassInfo start) {
        if (m.rights == PRIVATE) {
            return m;
        }
        for (ClassInfo c = start; c != null && c != m.home; c = c.parent) {
            MemberInfo x = c.ownObjectMethod(m.name, m.type);
            if (x != null && overridesMethod(x, m)) {
                return x;
            }
        }
        return m;
    }

    private boolean isHidden(MemberInfo m, ClassInfo start) {
        if (m.kind == FIELD) {
            return firstAsTold(start, m.name, TYPE_OF_FIELDS, WAY_READ) != m;
        }
        return m.isObjectMethod() && calledMethod(m, start) != m;
    }

    private static final class ClassInfo {
        final int number;
        final ClassInfo parent;
        final int pack;
        MemberInfo latest;

        ClassInfo(int number, ClassInfo parent, int pack) {
            this.number = number;
            this.parent = parent;
            this.pack = pack;
            this.latest = null;
        }

        boolean isBelow(ClassInfo upper) {
            for (ClassInfo c = this; c != null; c = c.parent) {
                if (c == upper) {
                    return true;
                }
            }
            return false;
        }

        MemberInfo own(int kind, int name, int type) {
            for (MemberInfo m = latest; m != null; m = m.earlier) {
                if (m.kind == kind && m.name == name && m.type == type) {
                    return m;
                }
            }
            return null;
        }

        MemberInfo ownObjectMethod(int name, int type) {
            MemberInfo m = own(METHOD, name, type);
            return m != null && !m.isStatic ? m : null;
        }
    }

    private static final class MemberInfo {
        final ClassInfo home;
        final int kind;
        final int name;
        final int type;
        final boolean isStatic;
        final boolean isFinal;
        final int rights;
        int number;
        MemberInfo earlier;

        MemberInfo(ClassInfo home, int kind, int name, int type, boolean isStatic, boolean isFinal, int rights) {
            this.home = home;
            this.kind = kind;
            this.name = name;
            this.type = type;
            this.isStatic = isStatic;
            this.isFinal = isFinal;
            this.rights = rights;
            this.number = NONE;
            this.earlier = null;
        }

        /** Whether this is a method that isn't static. */
        boolean isObjectMethod() {
            return kind == METHOD && !isStatic;
        }

        boolean isReachedBy(ClassInfo who) {
            switch (rights) {
                case PRIVATE: return who == home;
                case PACKAGE: return who.pack == home.pack;
                case PROTECTED: return who.pack == home.pack || who.isBelow(home);
                default: return true;
            }
        }
    }
}
