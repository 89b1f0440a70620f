/**
 * Types in a short notation: "0" to "4" are the basic ones, "x", "y", "z" the parameters, "a" to "l" the classes; "*" and a
 * type is a pointer; "P" to "T" and one type or two is an instance of one of the templates 0 to 4.
 */
final class Notation {
    private final Overloadery x;
    private final int[] parameters;
    private String text;
    private int at;

    /** The numbers of parameters of the templates, in their order. */
    Notation(Overloadery x, int... parameters) {
        this.x = x;
        this.parameters = parameters;
    }

    int type(String told) {
        text = told;
        at = 0;
        return next();
    }

    private int next() {
        char sign = text.charAt(at++);
        if (sign == '*') return x.pointerTo(next());
        if (sign >= 'x') return x.parameter(sign - 'x');
        if (sign >= 'a') return x.classType(sign - 'a');
        if (sign < 'P') return sign - '0';
        int template = sign - 'P';
        int first = next();
        return x.instance(template, first, parameters[template] == 2 ? next() : -1);
    }
}
