/** Two objects that came to the same state: one refuses a call, and goes on to answer like the other one. */
final class Twins {
    interface Life {
        Overloadery lead();
    }

    interface Call {
        Object answer(Overloadery x);
    }

    private final Checks c;

    Twins(Checks c) {
        this.c = c;
    }

    /** A call is refused with an exception and changes nothing. */
    void refuse(String name, Life life, Call call, Class<?> want) {
        for (int i = 0; i < Portrait.PARTS; i++) {
            int part = i;
            Overloadery own = life.lead();
            c.due(name, () -> call.answer(own), want);
            Overloadery twin = life.lead();
            c.due(name + " changes nothing, part " + part, () -> Portrait.of(own, part), Portrait.of(twin, part));
        }
    }
}
