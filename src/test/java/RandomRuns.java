import java.util.Random;

/** Runs of calls, the same ones every time, whose answers are those of Model. */
public final class RandomRuns {
    private static final int RUNS = Integer.getInteger("runs", 1500);
    private static final int CALLS = 512;

    private final Checks checks;
    private final Random random;
    private final String run;
    private final Overloadery x = new Overloadery();
    private final Model m = new Model();
    private int call;

    private RandomRuns(int seed, Checks checks) {
        this.checks = checks;
        random = new Random(seed);
        mostTemplates = 1 + random.nextInt(5);
        run = "run " + seed + ", call ";
    }

    public static void main(String[] args) {
        Checks checks = new Checks();
        int beyond = 0;
        for (int seed = 0; seed < RUNS; seed++) {
            RandomRuns one = new RandomRuns(seed, checks);
            one.go(seed % 5);
            if (one.m.isBeyond) beyond++;
        }
        System.out.println(beyond + " runs ended early, where the document is silent");
        checks.finish("RandomRuns");
    }

    private void go(int profile) {
        int structure = 40 + random.nextInt(200);
        for (call = 0; call < CALLS && !m.isBeyond; call++) {
            if (call == CALLS / 2 || call == CALLS - 1) everyFunction();
            boolean isEarly = call < structure;
            int kind = random.nextInt(100);
            if (isEarly && profile == 4) {
                if (kind < 60) classes();
                else if (kind < 70) types();
                else objects();
            } else if (isEarly) {
                if (kind < 15) classes();
                else if (kind < 45) types();
                else if (kind < 65) templates();
                else if (kind < 90) functions();
                else bodies();
            } else if (profile == 4) {
                if (kind < 2) classes();
                else if (kind < 12) bodies();
                else if (kind < 15) types();
                else objects();
            } else if (profile == 3) {
                if (kind < 40) templates();
                else if (kind < 60) types();
                else questions();
            } else {
                if (kind < 3) classes();
                else if (kind < 10) types();
                else if (kind < 13) templates();
                else if (kind < 17) functions();
                else if (kind < 20) bodies();
                else if (kind < 40) arguments();
                else if (kind < 90) questions();
                else objects();
            }
        }
    }

    private void same(String name, Checks.Call asked, Checks.Call due) {
        Object want;
        m.forget();
        try {
            want = due.answer();
        } catch (RuntimeException e) {
            want = e.getClass();
        }
        if (!m.isBeyond) checks.due(run + call + ", " + name, asked, want);
    }

    /** A number from 0 on below a bound, or, now and then, one that is out of range. */
    private int below(int bound) {
        if (random.nextInt(40) == 0) return random.nextBoolean() ? -1 - random.nextInt(2) : bound + random.nextInt(3);
        return bound <= 0 ? 0 : random.nextInt(bound);
    }

    private int type() {
        int count = m.types();
        if (random.nextInt(3) == 0 && count > 8) return below(count);
        return random.nextInt(4) == 0 ? below(6) : below(Math.min(count, 30));
    }

    /** Mostly a type of one of these kinds, and mostly open or not as is told. */
    private int type(String kinds, boolean isOpen) {
        for (int i = 0; i < 30; i++) {
            int type = random.nextInt(m.types());
            if (kinds.indexOf(m.kindOf(type)) >= 0 && m.isOpenAt(type) == isOpen) return type;
        }
        return type();
    }

    private int any(String kinds) {
        return random.nextInt(12) == 0 ? type() : type(kinds, random.nextBoolean());
    }

    private int closed(String kinds) {
        return random.nextInt(12) == 0 ? type() : type(kinds, false);
    }

    private int open(String kinds) {
        return random.nextInt(12) == 0 ? type() : type(kinds, true);
    }

    private char letter(String letters) {
        return random.nextInt(50) == 0 ? 'z' : letters.charAt(random.nextInt(letters.length()));
    }

    private int classCount = 0;
    private int templateCount = 0;
    private int functionCount = 0;
    private int namespaceCount = 1;
    private final int[] parameterCounts = new int[8];
    private int mostTemplates;

    private void classes() {
        int cls = below(classCount);
        int kind = random.nextInt(100);
        if (classCount < 3 || kind < 15) {
            int namespace = below(namespaceCount);
            same("addClass " + namespace, () -> x.addClass(namespace), () -> {
                int number = m.addClass(namespace);
                classCount = number + 1;
                return number;
            });
        } else if (kind < 65) {
            int base = below(cls > 0 && random.nextInt(10) > 0 ? cls : classCount);
            boolean isVirtual = random.nextInt(5) < 2;
            same("addBase " + cls + " " + base + " " + isVirtual, () -> x.addBase(cls, base, isVirtual),
                    () -> m.addBase(cls, base, isVirtual));
        } else if (kind < 80) {
            int member = below(cls > 0 && random.nextInt(10) > 0 ? cls : classCount);
            same("addMember " + cls + " " + member, () -> x.addMember(cls, member), () -> m.addMember(cls, member));
        } else if (kind < 95) {
            int type = closed("bpci");
            boolean isFrom = random.nextBoolean();
            same("addConversion " + cls + " " + type + " " + isFrom, () -> x.addConversion(cls, type, isFrom),
                    () -> m.addConversion(cls, type, isFrom));
        } else {
            int outer = below(namespaceCount);
            same("addNamespace " + outer, () -> x.addNamespace(outer), () -> {
                int number = m.addNamespace(outer);
                namespaceCount = number + 1;
                return number;
            });
        }
    }

    private void types() {
        int kind = random.nextInt(100);
        if (kind < 25) {
            int type = any("bctip");
            same("pointerTo " + type, () -> x.pointerTo(type), () -> m.pointerTo(type));
        } else if (kind < 45) {
            int cls = below(classCount);
            same("classType " + cls, () -> x.classType(cls), () -> m.classType(cls));
        } else if (kind < 55) {
            int parameter = below(3);
            same("parameter " + parameter, () -> x.parameter(parameter), () -> m.parameter(parameter));
        } else if (kind < 97) {
            int template = below(templateCount);
            boolean isTwo = template >= 0 && template < 5 && parameterCounts[template] == 2;
            int first = any("bctip");
            int second = isTwo != (random.nextInt(30) == 0) ? any("bctip") : -1;
            same("instance " + template + " " + first + " " + second, () -> x.instance(template, first, second),
                    () -> m.instance(template, first, second));
        } else {
            int type = type();
            same("kindOf " + type, () -> x.kindOf(type), () -> m.kindOf(type));
            same("types", x::types, m::types);
        }
    }

    private void templates() {
        int kind = random.nextInt(100);
        int template = below(templateCount);
        int specialisation = random.nextInt(3) == 0 ? -1 : random.nextInt(2);
        if (templateCount == 0 || kind < 8 && templateCount < mostTemplates) {
            int parameters = 1 + below(2);
            same("addTemplate " + parameters, () -> x.addTemplate(parameters), () -> {
                int number = m.addTemplate(parameters);
                parameterCounts[number] = parameters;
                templateCount = number + 1;
                return number;
            });
        } else if (kind < 40) {
            boolean isTwo = template >= 0 && template < 5 && parameterCounts[template] == 2;
            int first = random.nextInt(4) == 0 ? closed("bcpi") : open("pit");
            int second = isTwo != (random.nextInt(30) == 0) ? random.nextInt(4) == 0 ? type() : open("tpi") : -1;
            same("specialise " + template + " " + first + " " + second, () -> x.specialise(template, first, second),
                    () -> m.specialise(template, first, second));
        } else if (kind < 75) {
            int type = random.nextInt(12) == 0 ? -1 : random.nextInt(3) == 0 ? closed("ci") : open("i");
            same("setBase " + template + " " + specialisation + " " + type,
                    () -> x.setBase(template, specialisation, type), () -> m.setBase(template, specialisation, type));
        } else {
            int parameter = random.nextInt(4) == 0 ? below(3) : 0;
            char letter = letter("pcbd");
            int cls = below(classCount);
            same("constrain " + template + " " + specialisation + " " + parameter + letter + cls,
                    () -> x.constrain(template, specialisation, parameter, letter, cls),
                    () -> m.constrain(template, specialisation, parameter, letter, cls));
        }
    }

    private void functions() {
        int kind = random.nextInt(100);
        int function = random.nextInt(3) == 0 ? below(functionCount) : functionCount - 1;
        if (functionCount == 0 || kind < 40) {
            int namespace = below(namespaceCount);
            int name = random.nextInt(4) == 0 ? below(6) : random.nextInt(2);
            boolean isDeleted = random.nextInt(8) == 0;
            same("addFunction " + namespace + " " + name + " " + isDeleted,
                    () -> x.addFunction(namespace, name, isDeleted), () -> {
                        int number = m.addFunction(namespace, name, isDeleted);
                        functionCount = number + 1;
                        return number;
                    });
            int parameters = random.nextInt(8) == 0 ? random.nextInt(4) : 1 + random.nextInt(2);
            for (int i = 0; i < parameters; i++) {
                addParameter(functionCount - 1);
            }
        } else if (kind < 45) {
            addParameter(function);
        } else {
            int parameter = below(3);
            char letter = letter("pcbd");
            int cls = below(classCount);
            same("require " + function + " " + parameter + letter + cls,
                    () -> x.require(function, parameter, letter, cls),
                    () -> m.require(function, parameter, letter, cls));
        }
    }

    private void addParameter(int function) {
        char mode = letter("vrcmvc");
        int type = random.nextInt(5) < 2 ? closed("bpci") : open("tpi");
        same("addParameter " + function + mode + type, () -> x.addParameter(function, mode, type),
                () -> m.addParameter(function, mode, type));
    }

    private void arguments() {
        if (random.nextInt(3) == 0) same("clearArguments", x::clearArguments, m::clearArguments);
        else addArgument();
    }

    private void addArgument() {
        int type = closed(random.nextInt(3) > 0 ? "ip" : "bpci");
        char category = letter("lkr");
        same("addArgument " + type + category, () -> x.addArgument(type, category),
                () -> m.addArgument(type, category));
    }

    private void questions() {
        int type = closed("i");
        int other = closed("ci");
        int namespace = below(namespaceCount);
        int name = random.nextInt(4) == 0 ? below(6) : random.nextInt(2);
        int function = below(functionCount);
        int at = below(random.nextInt(5) == 0 ? 3 : 1);
        switch (random.nextInt(12)) {
            case 0:
                same("baseOf " + type, () -> x.baseOf(type), () -> m.baseOf(type));
                break;
            case 1:
                same("chosenFor " + type, () -> x.chosenFor(type), () -> m.chosenFor(type));
                break;
            case 2:
            case 3:
                int from = random.nextBoolean() ? type : closed("c");
                same("distance " + from + " " + other, () -> x.distance(from, other), () -> m.distance(from, other));
                break;
            case 4:
                same("candidates " + namespace + " " + name, () -> x.candidates(namespace, name),
                        () -> m.candidates(namespace, name));
                break;
            case 5:
                same("isViable " + function, () -> x.isViable(function), () -> m.isViable(function));
                break;
            case 6:
            case 7:
                same("coming " + function + " " + at, () -> x.coming(function, at), () -> m.coming(function, at));
                break;
            case 8:
                same("deduced " + function + " " + at, () -> x.deduced(function, at), () -> m.deduced(function, at));
                break;
            case 9:
            case 10:
                resolve(name, namespace);
                break;
            default:
                same("viableShare", x::viableShare, m::viableShare);
                break;
        }
    }

    /** Asks of every function how a call with new arguments comes to it. */
    private void everyFunction() {
        for (int round = 0; round < 20; round++) {
            int count = random.nextInt(8) == 0 ? 3 : 1 + random.nextInt(2);
            same("clearArguments", x::clearArguments, m::clearArguments);
            for (int i = 0; i < count; i++) {
                addArgument();
            }
            for (int i = 0; i < functionCount; i++) {
                ask(i);
            }
            for (int i = 0; i < 3; i++) {
                resolve(i % 2, random.nextInt(namespaceCount));
            }
        }
    }

    private void ask(int function) {
        same("isViable " + function, () -> x.isViable(function), () -> m.isViable(function));
        if (!m.isViable(function)) return;
        for (int i = 0; i < 3; i++) {
            int at = i;
            same("coming " + function + " " + at, () -> x.coming(function, at), () -> m.coming(function, at));
            same("deduced " + function + " " + at, () -> x.deduced(function, at), () -> m.deduced(function, at));
        }
    }

    private void resolve(int name, int namespace) {
        same("resolve " + namespace + " " + name, () -> x.resolve(namespace, name), () -> m.resolve(namespace, name));
        same("resolveAnew " + namespace + " " + name, () -> x.resolveAnew(namespace, name),
                () -> m.resolve(namespace, name));
    }

    private void bodies() {
        int cls = below(classCount);
        int method = random.nextInt(3) == 0 ? below(4) : 0;
        boolean does = random.nextBoolean();
        switch (random.nextInt(4)) {
            case 0:
                same("override " + cls + " " + method + " " + does, () -> x.override(cls, method, does),
                        () -> m.override(cls, method, does));
                break;
            case 1:
                same("overrider " + cls + " " + method, () -> x.overrider(cls, method), () -> m.overrider(cls, method));
                break;
            case 2:
                int spoken = random.nextInt(3) == 0 ? -1 : method;
                same("setBody " + cls + " " + spoken + " " + does, () -> x.setBody(cls, spoken, does),
                        () -> m.setBody(cls, spoken, does));
                break;
            default:
                same("meanParts", x::meanParts, m::meanParts);
                break;
        }
    }

    private void objects() {
        int cls = below(classCount);
        int kind = random.nextInt(100);
        if (kind < 15) {
            boolean isTry = random.nextBoolean();
            same("open " + isTry, () -> x.open(isTry), () -> m.open(isTry));
        } else if (kind < 23) {
            same("close", x::close, m::close);
        } else if (kind < 38) {
            int times = random.nextInt(15) == 0 ? below(100) : below(5);
            same("setThrow " + cls + " " + times, () -> x.setThrow(cls, times), () -> m.setThrow(cls, times));
        } else if (kind < 70) {
            char how = letter("oatl");
            int many = random.nextInt(20) == 0 ? below(7) : 1 + random.nextInt(3);
            same("make " + cls + how + many, () -> x.make(cls, how, many), () -> m.make(cls, how, many));
        } else if (kind < 76) {
            same("endExpression", x::endExpression, m::endExpression);
        } else if (kind < 79) {
            same("raise", x::raise, m::raise);
        } else {
            int index = random.nextInt(3) > 0 ? m.trace() - 1 - random.nextInt(6) : below(m.trace() + 1);
            same("living", x::living, m::living);
            same("trace", x::trace, m::trace);
            same("made", x::made, m::made);
            same("takenDown", x::takenDown, m::takenDown);
            same("traceKind " + index, () -> x.traceKind(index), () -> m.traceKind(index));
            same("traceClass " + index, () -> x.traceClass(index), () -> m.traceClass(index));
            same("traceObject " + index, () -> x.traceObject(index), () -> m.traceObject(index));
        }
    }
}
