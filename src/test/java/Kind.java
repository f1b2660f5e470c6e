/** BYTES and SHORTS: the calls that both have, and how many numbers each kind has. */
enum Kind {
    BYTES {
        int span() { return 256; }

        int set(Shortnumbers x, int k, int value) { return x.setByte(k, value); }

        int parse(Shortnumbers x, int k, int text) { return x.parseByte(k, text); }

        int parseBy(Shortnumbers x, int k, int text, int base) { return x.parseByteBy(k, text, base); }

        int decode(Shortnumbers x, int k, int text) { return x.decodeByte(k, text); }

        int write(Shortnumbers x, int k, int text, int base) { return x.writeByte(k, text, base); }

        int add(Shortnumbers x, int k, int a, int b) { return x.addBytes(k, a, b); }

        int of(Shortnumbers x, int k, int what) { return x.ofByte(k, what); }

        String unsigned(Shortnumbers x, int k) { return x.unsignedByte(k); }

        int compare(Shortnumbers x, int a, int b, boolean isUnsigned) {
            return x.compareBytes(a, b, isUnsigned);
        }

        boolean same(Shortnumbers x, int a, int b) { return x.sameBytes(a, b); }
    },

    SHORTS {
        int span() { return 65536; }

        int set(Shortnumbers x, int k, int value) { return x.setShort(k, value); }

        int parse(Shortnumbers x, int k, int text) { return x.parseShort(k, text); }

        int parseBy(Shortnumbers x, int k, int text, int base) { return x.parseShortBy(k, text, base); }

        int decode(Shortnumbers x, int k, int text) { return x.decodeShort(k, text); }

        int write(Shortnumbers x, int k, int text, int base) { return x.writeShort(k, text, base); }

        int add(Shortnumbers x, int k, int a, int b) { return x.addShorts(k, a, b); }

        int of(Shortnumbers x, int k, int what) { return x.ofShort(k, what); }

        String unsigned(Shortnumbers x, int k) { return x.unsignedShort(k); }

        int compare(Shortnumbers x, int a, int b, boolean isUnsigned) {
            return x.compareShorts(a, b, isUnsigned);
        }

        boolean same(Shortnumbers x, int a, int b) { return x.sameShorts(a, b); }
    };

    abstract int span();

    abstract int set(Shortnumbers x, int k, int value);

    abstract int parse(Shortnumbers x, int k, int text);

    abstract int parseBy(Shortnumbers x, int k, int text, int base);

    abstract int decode(Shortnumbers x, int k, int text);

    abstract int write(Shortnumbers x, int k, int text, int base);

    abstract int add(Shortnumbers x, int k, int a, int b);

    abstract int of(Shortnumbers x, int k, int what);

    abstract String unsigned(Shortnumbers x, int k);

    abstract int compare(Shortnumbers x, int a, int b, boolean isUnsigned);

    abstract boolean same(Shortnumbers x, int a, int b);
}
