/** What an object answers to all that can be asked, in several parts, as an object is used for 512 calls at most. */
final class Portrait {
    static final int PARTS = 10;
    private static final int LAST_ENTRIES = 40;

    private final Overloadery x;
    private final StringBuilder text = new StringBuilder();

    private Portrait(Overloadery x) {
        this.x = x;
    }

    static String of(Overloadery x, int part) {
        Portrait portrait = new Portrait(x);
        switch (part) {
            case 0: portrait.types(); break;
            case 1: portrait.bodies(); break;
            case 2: portrait.methods(); break;
            case 3: portrait.distances(); break;
            case 4: portrait.candidates(); break;
            case 5: portrait.comings(); break;
            case 6: portrait.roomForCalls(); break;
            case 7: portrait.roomForTemplates(); break;
            case 8: portrait.roomForClasses(); break;
            default: portrait.objects();
        }
        return portrait.text.toString();
    }

    private void ask(Checks.Call call) {
        text.append(answer(call)).append(' ');
    }

    private static String answer(Checks.Call call) {
        try {
            return String.valueOf(call.answer());
        } catch (RuntimeException e) {
            return e.getClass().getSimpleName();
        }
    }

    private void types() {
        ask(x::types);
        for (int i = 0; i < 151; i++) {
            int type = i;
            ask(() -> x.kindOf(type));
        }
        for (int i = 0; i < 12; i++) {
            int number = i;
            ask(() -> x.classType(number));
            ask(() -> x.pointerTo(number));
            if (i < 4) ask(() -> x.parameter(number));
            if (i < 6) ask(() -> x.instance(number, 0, -1));
            if (i < 6) ask(() -> x.instance(number, 0, 1));
        }
        ask(x::types);
    }

    private void bodies() {
        int count = Math.min(x.types(), 150);
        for (int i = 0; i < count; i++) {
            int type = i;
            ask(() -> x.chosenFor(type));
            ask(() -> x.baseOf(type));
        }
        ask(x::types);
    }

    private void methods() {
        for (int i = 0; i < 12; i++) {
            int cls = i;
            for (int j = 0; j < 4; j++) {
                int method = j;
                ask(() -> x.overrider(cls, method));
                ask(() -> x.override(cls, method, false));
            }
            ask(() -> x.setBody(cls, -1, false));
            ask(() -> x.setThrow(cls, 0));
        }
    }

    private void distances() {
        ask(x::meanParts);
        for (int i = 0; i < 12; i++) {
            for (int j = 0; j < 12; j++) {
                int own = i;
                int other = 5 + j;
                ask(() -> x.distance(5 + own, other));
            }
        }
    }

    private void candidates() {
        for (int i = 0; i < 36; i++) {
            int namespace = i / 6;
            int name = i % 6;
            ask(() -> x.candidates(namespace, name));
            ask(() -> x.resolve(namespace, name));
        }
        ask(x::viableShare);
    }

    private void comings() {
        for (int i = 0; i < 72; i++) {
            int function = i / 3;
            int at = i % 3;
            if (at == 0) ask(() -> x.isViable(function));
            ask(() -> x.coming(function, at));
            ask(() -> x.deduced(function, at));
        }
        ask(x::types);
    }

    private void roomForCalls() {
        for (int i = 0; i < 120; i++) {
            int function = i / 5;
            if (i % 5 < 4) ask(() -> x.addParameter(function, 'v', 0));
            ask(() -> x.require(function, 0, 'b', 0));
        }
        for (int i = 0; i < 4; i++) {
            ask(() -> x.addArgument(0, 'l'));
        }
        ask(() -> x.resolveAnew(0, 0));
        ask(x::clearArguments);
        for (int i = 0; i < 25; i++) {
            ask(() -> x.addFunction(0, 0, false));
        }
    }

    private void roomForTemplates() {
        for (int i = 0; i < 6; i++) {
            ask(() -> x.addTemplate(2));
        }
        for (int template = 0; template < 5; template++) {
            for (int i = -1; i < 4; i++) {
                int told = template;
                int body = i;
                ask(() -> x.setBase(told, body, -1));
                ask(() -> x.specialise(told, 0, -1));
                ask(() -> x.specialise(told, 0, 0));
                for (int j = 0; j < 5 && body >= 0; j++) {
                    ask(() -> x.constrain(told, body, 0, 'b', 0));
                }
            }
        }
    }

    private void roomForClasses() {
        for (int i = 0; i < 6; i++) {
            ask(() -> x.addNamespace(0));
        }
        for (int i = 0; i < 72; i++) {
            int cls = i / 6;
            int at = i % 6;
            if (at < 4) ask(() -> x.addConversion(cls, at, cls % 2 == 0));
            if (at < 4) ask(() -> x.addBase(cls, at, false));
            if (at < 4) ask(() -> x.addMember(cls, 0));
        }
        for (int i = 0; i < 13; i++) {
            ask(() -> x.addClass(0));
        }
        ask(x::meanParts);
    }

    private void objects() {
        ask(x::living);
        ask(x::made);
        lastEntries();
        ask(x::endExpression);
        ask(x::living);
        for (int i = 0; i < 3; i++) {
            int cls = i;
            ask(() -> x.make(cls, 'o', 0));
        }
        for (int i = 0; i < 4; i++) {
            ask(x::close);
            ask(x::living);
        }
        ask(x::raise);
        ask(x::living);
        for (int i = 0; i < 10; i++) {
            ask(() -> x.open(false));
        }
        ask(x::made);
        ask(x::takenDown);
        lastEntries();
    }

    private void lastEntries() {
        int length = x.trace();
        ask(x::trace);
        for (int i = Math.max(0, length - LAST_ENTRIES); i <= length; i++) {
            int index = i;
            ask(() -> x.traceKind(index));
            ask(() -> x.traceClass(index));
            ask(() -> x.traceObject(index));
        }
    }
}
