/** Makes the words of instructions, by the fields that the document names. */
final class Asm {
    static final int NOP = immediate(0, 0, 0, 0);
    static final int ECALL = 115;
    static final int EBREAK = immediateForm(115, 0, 0, 0, 1);
    static final int SRET = immediateForm(115, 0, 0, 0, 258);
    static final int WFI = immediateForm(115, 0, 0, 0, 261);
    static final int SFENCE = registerForm(115, 0, 0, 0, 0, 9);

    private Asm() {
    }

    static int immediateForm(int op, int f, int d, int a, int immediate) {
        return op | d << 7 | f << 12 | a << 15 | immediate << 20;
    }

    static int registerForm(int op, int f, int d, int a, int b, int g) {
        return op | d << 7 | f << 12 | a << 15 | b << 20 | g << 25;
    }

    static int immediate(int f, int d, int a, int immediate) {
        return immediateForm(19, f, d, a, immediate);
    }

    static int add(int d, int a, int immediate) {
        return immediate(0, d, a, immediate);
    }

    static int register(int f, int g, int d, int a, int b) {
        return registerForm(51, f, d, a, b, g);
    }

    static int load(int f, int d, int a, int offset) {
        return immediateForm(3, f, d, a, offset);
    }

    static int store(int f, int b, int a, int offset) {
        return registerForm(35, f, offset & 31, a, b, offset >> 5);
    }

    static int branch(int f, int a, int b, int offset) {
        int d = offset & 30 | offset >> 11 & 1;
        int g = offset >> 5 & 63 | (offset >> 12 & 1) << 6;
        return registerForm(99, f, d, a, b, g);
    }

    static int jump(int d, int offset) {
        int lower = (offset >> 11 & 1) << 20 | (offset >> 1 & 0x3ff) << 21;
        return 111 | d << 7 | offset & 0xff000 | lower | (offset >> 20 & 1) << 31;
    }

    static int jumpTo(int d, int a, int offset) {
        return immediateForm(103, 0, d, a, offset);
    }

    static int upper(int op, int d, int v) {
        return op | d << 7 | v & 0xfffff000;
    }

    /** Op 115 on a control register; a is a register or, for f above 4, the number itself. */
    static int control(int f, int d, int number, int a) {
        return immediateForm(115, f, d, a, number);
    }

    /** Op 115, f 4: a load with g 48, 50, 52. */
    static int guestLoad(int g, int b, int d, int a) {
        return registerForm(115, 4, d, a, b, g);
    }

    /** Op 115, f 4: a store with g 49, 51, 53. */
    static int guestStore(int g, int b, int a) {
        return registerForm(115, 4, 0, a, b, g);
    }
}
