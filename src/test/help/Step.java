/** One call of the face with its arguments, made on the class and on the model alike. */
record Step(Kind kind, int first, long second) {
    enum Kind { OPEN, WRITE, READ, VALUE, START, NEXT, REWRITE, REMOVE, NUMBER, CELL, RECORDS, DIGITS, COUNT }

    /** What a call answers that throws what the document asks for; no test writes a record like it. */
    static final long THROWN = 0x7468726f776eL;

    static Step of(Kind kind) {
        return new Step(kind, 0, 0);
    }

    static Step of(Kind kind, int first) {
        return new Step(kind, first, 0);
    }

    static Step next(boolean back) {
        return new Step(Kind.NEXT, back ? 1 : 0, 0);
    }

    long on(RelativeFiles x) {
        switch (kind) {
            case OPEN: return x.open(first);
            case WRITE: return x.write(first, second);
            case READ: return x.read(first);
            case VALUE: return x.value();
            case START: return x.start(first, (int) second);
            case NEXT: return x.next(first == 1);
            case REWRITE: return x.rewrite(first, second);
            case REMOVE: return x.remove(first);
            case NUMBER: return x.number();
            case CELL: return cellOf(x);
            case RECORDS: return x.records();
            case DIGITS: return x.digits(first);
            default: return x.count(first);
        }
    }

    long on(Model m) {
        switch (kind) {
            case OPEN: return m.open(first);
            case WRITE: return m.write(first, second);
            case READ: return m.read(first);
            case VALUE: return m.value();
            case START: return m.start(first, (int) second);
            case NEXT: return m.next(first == 1);
            case REWRITE: return m.rewrite(first, second);
            case REMOVE: return m.remove(first);
            case NUMBER: return m.number();
            case CELL: return cellOf(m);
            case RECORDS: return m.records();
            case DIGITS: return m.digits(first);
            default: return m.count(first);
        }
    }

    private long cellOf(RelativeFiles x) {
        try {
            return x.cell(first);
        } catch (ArrayIndexOutOfBoundsException e) {
            return THROWN;
        }
    }

    private long cellOf(Model m) {
        try {
            return m.cell(first);
        } catch (ArrayIndexOutOfBoundsException e) {
            return THROWN;
        }
    }

    @Override
    public String toString() {
        String name = kind.name().toLowerCase();
        switch (kind) {
            case VALUE: case NUMBER: case RECORDS: return name + "()";
            case WRITE: case REWRITE: case START: return name + "(" + first + ", " + second + ")";
            case NEXT: return name + "(" + (first == 1) + ")";
            default: return name + "(" + first + ")";
        }
    }
}
