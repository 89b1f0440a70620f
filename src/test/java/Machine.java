/**
 * A machine of templates 0 and 1 that counts: its instances tell a number and where in it they are, and each one just comes
 * to the next one by way of its base. A digit 0 is a pointer, a digit 1 an instance of template 2.
 */
final class Machine {
    final Overloadery x;
    final int first;
    final int second;
    private final int start;

    /** How the next number stands in the base of one. */
    interface Wrapping {
        int wrapped(int type);
    }

    Machine(Overloadery x) {
        this.x = x;
        first = x.parameter(0);
        second = x.parameter(1);
        start = x.addTemplate(2);
        x.addTemplate(2);
        x.addTemplate(1);
    }

    int zero(int type) {
        return x.pointerTo(type);
    }

    int one(int type) {
        return x.instance(start + 2, type, -1);
    }

    static int pointers(Overloadery x, int type, int howMany) {
        int at = type;
        for (int i = 0; i < howMany; i++) {
            at = x.pointerTo(at);
        }
        return at;
    }

    /** Ones are carried, the first zero becomes a one, and the zeros are put back; behind the last number is a base. */
    void run(int end, Wrapping base) {
        x.specialise(start, first, one(second));
        x.setBase(start, 0, base.wrapped(x.instance(start, zero(first), second)));
        x.specialise(start, first, zero(second));
        x.setBase(start, 1, base.wrapped(x.instance(start + 1, first, one(second))));
        x.specialise(start, first, 2);
        x.setBase(start, 2, end);
        x.specialise(start + 1, zero(first), second);
        x.setBase(start + 1, 0, base.wrapped(x.instance(start + 1, first, zero(second))));
        x.specialise(start + 1, 1, second);
        x.setBase(start + 1, 1, base.wrapped(x.instance(start, 1, second)));
    }

    /** The number 0 with so many digits: about four times two to the power of this steps are ahead of it. */
    int zeros(int digits) {
        int type = 2;
        for (int i = 0; i < digits; i++) {
            type = zero(type);
        }
        return x.instance(start, 1, type);
    }
}
