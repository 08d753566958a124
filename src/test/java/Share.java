/** A fraction in lowest terms, for the plain twin. */
record Share(long upper, long lower) {
    static Share of(long upper, long lower) {
        long a = Math.abs(upper);
        long b = lower;
        while (b != 0) {
            long c = a % b;
            a = b;
            b = c;
        }
        return new Share(upper / a, lower / a);
    }

    static Share whole(long n) {
        return new Share(n, 1);
    }

    Share times(long up, long low) {
        return of(Math.multiplyExact(upper, up), Math.multiplyExact(lower, low));
    }

    Share plus(Share other) {
        return of(Math.addExact(Math.multiplyExact(upper, other.lower), Math.multiplyExact(other.upper, lower)),
                Math.multiplyExact(lower, other.lower));
    }

    Share less(Share other) {
        return plus(new Share(-other.upper, other.lower));
    }

    Share cutDown() {
        return whole(Math.floorDiv(upper, lower));
    }

    int compare(Share other) {
        return Long.compare(Math.multiplyExact(upper, other.lower), Math.multiplyExact(other.upper, lower));
    }
}
