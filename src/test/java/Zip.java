import java.io.ByteArrayOutputStream;
import java.util.ArrayList;
import java.util.List;
import java.util.zip.CRC32;

/** Makes files field by field, so that each field can be wrong. */
final class Zip {
    static final class Part {
        byte[] name;
        byte[] stored;
        int method;
        long sum;
        long size;
        long said;
        int date = 33;
        int record = -1;
        boolean hasRecord = true;

        /** As it is, whatever pressing would make of it. */
        Part(String name, byte[] content) {
            this.name = Kit.bytes(name);
            stored = content;
            CRC32 crc = new CRC32();
            crc.update(content);
            sum = crc.getValue();
            size = content.length;
            said = content.length;
        }

        Part stream(byte[] stream) {
            method = 8;
            stored = stream;
            size = stream.length;
            return this;
        }
    }

    final List<Part> parts = new ArrayList<>();
    byte[] before = new byte[0];
    byte[] between = new byte[0];

    Zip part(Part part) {
        parts.add(part);
        return this;
    }

    Zip part(String name, String content) {
        return part(new Part(name, Kit.bytes(content)));
    }

    /** As the program must write it: pressed if that makes them fewer. */
    Zip fewest(String name, byte[] content) {
        Part part = new Part(name, content);
        byte[] pressed = PressOracle.press(content);
        return part(pressed.length < content.length ? part.stream(pressed) : part);
    }

    byte[] done() {
        ByteArrayOutputStream all = new ByteArrayOutputStream();
        all.writeBytes(before);
        for (Part p : parts) {
            if (p.hasRecord) {
                p.record = p.record < 0 ? all.size() : p.record;
                all.writeBytes(recordOf(p));
            }
        }
        all.writeBytes(between);
        int directory = all.size();
        for (Part p : parts) {
            all.writeBytes(entryOf(p));
        }
        int size = all.size() - directory;
        all.writeBytes(Kit.join(four(0x06054B50), two(0), two(0), two(parts.size()), two(parts.size()), four(size),
            four(directory), two(0)));
        return all.toByteArray();
    }

    static byte[] recordOf(Part p) {
        return Kit.join(four(0x04034B50), two(20), two(0), two(p.method), two(0), two(p.date), four(p.sum), four(p.size),
            four(p.said), two(p.name.length), two(0), p.name, p.stored);
    }

    static byte[] entryOf(Part p) {
        return Kit.join(four(0x02014B50), two(20), two(20), two(0), two(p.method), two(0), two(p.date), four(p.sum),
            four(p.size), four(p.said), two(p.name.length), two(0), two(0), two(0), two(0), four(0), four(p.record), p.name);
    }

    static byte[] two(int value) {
        return new byte[] {(byte) value, (byte) (value >> 8)};
    }

    static byte[] four(long value) {
        return new byte[] {(byte) value, (byte) (value >> 8), (byte) (value >> 16), (byte) (value >> 24)};
    }
}
