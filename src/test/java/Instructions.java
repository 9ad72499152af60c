/** Names for the instructions. */
interface Instructions {
    int NULL = 0;
    int FALSE = 1;
    int TRUE = 2;
    int INTEGER = 3;
    int STACK = 4;
    int GLOBAL = 5;
    int FIELD = 6;
    int AT = 7;
    int SIZE = 8;
    int SET_STACK = 9;
    int SET_GLOBAL = 10;
    int SET_FIELD = 11;
    int SET_AT = 12;
    int PUSH = 13;
    int POP = 14;
    int GO = 15;
    int IF = 16;
    int UNLESS = 17;
    int SAME = 18;
    int LESS = 19;
    int ADD = 20;
    int SUB = 21;
    int MUL = 22;
    int DIV = 23;
    int MOD = 24;
    int NOT = 25;
    int SORT = 26;
    int OBJECT = 27;
    int ARRAY = 28;
    int FUNCTION = 29;
    int CALL = 30;
    int RETURN = 31;
    int TRAP = 32;
    int UNTRAP = 33;
    int THROW = 34;
}
