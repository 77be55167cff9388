/**
 * Sources of many kinds: the fault that is due, the digest behind assemble(), and the one behind flatten() and another
 * assemble(). What is due was reckoned by a second program, written from the document on its own.
 */
public final class SourcesTest {
    public static void main(String[] args) {
        sources0();
        sources1();
        sources2();
        sources3();
        sources4();
        Due.end();
    }

    private static void run(String fault, long digest, long again, String... texts) {
        Twopassworks w = Due.source(texts);
        w.assemble();
        String name = String.join("|", texts);
        Due.same("fault of " + name, fault, w.fault(0) + " " + w.fault(1) + " " + w.fault(2));
        Due.same("digest of " + name, digest, w.digest());
        w.flatten();
        w.assemble();
        Due.same("digest behind flatten() of " + name, again, w.digest());
    }

    private static void sources0() {
        run("6 5 0", -3459681199724545329L, -3459681199724545329L,
            "m: macro", "end", "n: macro", "load =  0-11", "byte a", "n ", "jump f", "end", "want u", "call c",
            "j: call h", "room 2", "p: call c", "jump g", "jump  a", "call a", "  ", "word h,$50-d+f,d", "stop",
            "load =1", "a: call -g", "n 5,e,2", "b: byte 1", "c: byte 1", "d: byte 1", "f: let 5", "g:", "h:", "i:");
        run("0 -1 0", -2395047846318958019L, -1109327767318576610L,
            "m: macro", "@x: stop", "end", "repeat 0", "repeat 1", "m 5", "end", "end", "repeat 3", "repeat 0",
            "m 5", "end", "end", "repeat 4", "repeat 0", "@x: m 2", "end", "end", "stop", "stop", "stop", "stop",
            "stop", "stop", "stop", "stop");
        run("0 -1 0", 7374128964160755853L, -2576814714304489098L,
            "m: macro", "jump @x", "@x: stop", "byte %1", "jump @x", "@x:", "end", "repeat 5", "repeat 0", "m 5",
            "end", "end", "repeat 4", "repeat 2", "stop", "end", "end", "repeat 0", "repeat 2", "m 5", "end", "end",
            "stop", "stop", "stop", "stop", "stop", "stop", "stop", "stop", "stop", "stop", "stop", "stop", "stop",
            "stop", "stop", "stop", "stop", "stop", "stop", "stop", "stop", "stop", "stop", "stop", "stop", "stop",
            "stop", "stop", "stop", "stop", "stop", "stop", "stop", "stop", "stop", "stop", "stop", "stop", "stop",
            "stop", "stop", "stop", "stop", "stop", "stop", "stop", "stop", "stop", "stop", "stop", "stop", "stop",
            "stop", "stop", "stop", "stop");
        run("0 -1 0", 987146523927726732L, 6132658859136409033L,
            "want u", "want v", "weak w", "k: let 3", "a: jump a", "word a,.+2", "byte 253,137", "load 7", "room 5");
        run("0 -1 0", 1495519565968411092L, 7102208533531891541L,
            "want u", "want v", "weak w", "k: let 2", "weak a", "load =w", "load =-1", "part 0", "a: byte 96,46",
            "call v", "from 500", "word a-1", "jump a", "word k,a-1", "word u", "load =u", "weak z", "room 12",
            "room 0", "jump a", "jump a", "jump a", "part 3", "part 0", "from 400", "byte 57,195", "part 1",
            "call v", "room 12", "room 7", "stop", "jump a", "jump a", "stop", "call w", "byte 118,69", "call v",
            "jump a", "room 5", "stop", "jump a", "part 2", "room k*2", "load =5");
        run("5 18 0", 6678422626962998358L, 6678422626962998358L,
            "m: macro", "n @x,9", "@y: word g", "share h", "if   k", "e: let 0+f+@y ; r 5  ", "word   a,3", "jump d",
            "end", "end", "load =(@y-4-8*-7+b)", "jump a", "call e", "from 300", "align 8", "jump d", "byte 4,95",
            "a: let 8", "if 1", "else ; hi", "", "call f", "repeat 0", "en d", "end", "stop", "jump (d)",
            "c: room 0", "word .,c/(7+@x+a),g,((b)/(11))", "h: jump a", "x_0: stop", "call f", "byte 90 ; hi",
            "g: word e,--11,(0)*127", "jump e", "want v", "e: jump f");
        run("0 -1 0", 770849682572572730L, -5085707487384488660L,
            "m: macro", "@x: stop", "end", "repeat 3", "repeat 2", "m 5", "end", "end", "stop", "stop", "stop",
            "stop", "stop", "stop", "stop", "stop", "stop", "stop", "stop", "stop", "stop", "stop", "stop", "stop",
            "stop", "stop", "stop", "stop", "stop", "stop", "stop", "stop", "stop", "stop", "stop", "a: m 3");
        run("0 -1 0", 637525126595003251L, -6488269217956708017L,
            "k: let 3", "l: let k+1", "want w", "n: macro", "word .", "end", "call g", "e: load 219", "o: room 0",
            "stop", "byte 172,6", "if 1", "else", "l: let 47 ; r 5  ", "load =7", "@x: n c,d,0", "end", "load =-10",
            "a: let 5", "b: let 5", "c: byte 1", "d: let 5 ; hi", "f: byte 1", "g: let 5", "h: byte 1", "i: byte 1",
            "j: let 5");
        run("0 -1 0", 3898612332882387429L, 2332798013154787762L,
            "o: macro", "word %1", "@y: byte 1", "word @y", "end", "r: macro", "@y: byte 1", "word @y", "end",
            "p: macro", "if %1", "r %1,2", "end", "end", "q: macro", "@x: p %1", "end", "p 2", "q 1", "q $10",
            "if 1", "if 1", "if 1", "stop", "end", "end", "end");
        run("0 -1 0", 4634704832063834204L, 2374720871917065710L,
            "want u", "want v", "weak w", "k: let 3", "stop", "jump a", "jump 500", "stop", "jump a", "room 7",
            "stop", "word u,k*3", "call u", "stop", "weak z", "room 0", "weak a", "part 3", "room 7",
            "a: byte 148,80,194", "call u", "jump a", "share a", "part 1");
        run("0 -1 0", 6285544096317793767L, -3734079427945210568L,
            "k: let 1", "l: let k+1", "n: macro ;", "if %2", "if 1", "j  ump c", "byte g", "load =.", "end", "else",
            "end", "end", "a: call e", "if -7", "part 0", "share f", "else", "jump f", "@x stop", "end", "if 0",
            "word 9,8,byte", "load 167", "p: word @x-@y,3,4,11", "els e", "i:f f", "byte 241,206", "lo ad =4", "end",
            "h: jump b", "@x: load =11", "align 8", "e: let b", "b:", "c: byte 1", "d:", "f: stop  ", "i:");
        run("15 -1 2", -7193899325911982216L, -7193899325911982216L,
            "part 1", "align 16", "room 3", "load =b", "load =b", "load =2", "load =.", "load =.", "load =.",
            "part 0", "align 16", "stop", "part 3", "from 200", "stop", "part 2", "from 10", "room 6", "room 3",
            "room 38", "load =.", "load =1", "load =2", "load =.", "load =b", "load =2", "load =a", "load =2",
            "load =1", "load =a", "load =1", "load =.", "load =.", "load =1", "stop", "a:", "part 1", "b: let a+1");
        run("0 -1 0", 2007300880615228922L, 75267577216281709L,
            "m: macro", "stop", "byte %1", "stop", "byte %1", "byte %1", "@x:", "end", "repeat 4", "repeat 0",
            "stop", "end", "end", "repeat 1", "repeat 1", "stop", "end", "end", "repeat 3", "repeat 3", "m 5", "end",
            "end", "stop", "stop", "stop", "stop", "stop", "stop");
        run("10 8 5", -7742368744967924658L, -7742368744967924658L,
            "a: byte 0 ;6", "b: byte 0 ;1", "c: let .", "d: let 2", "e: let uu", "f: let .", "weak zz", "want uu",
            "part e", "word b", "room c", "word d", "end");
    }

    private static void sources1() {
        run("0 -1 0", -4029110867777058347L, 1185623728221950184L,
            "m: macro", "stop", "@x:", "end", "repeat 0", "repeat 0", "m 5", "end", "end", "repeat 0", "repeat 0",
            "m 5", "end", "end", "stop", "stop", "stop", "stop", "stop", "stop", "stop", "stop", "stop", "stop",
            "stop", "stop", "stop", "stop", "stop", "stop", "stop", "stop", "stop", "stop", "stop", "stop", "stop",
            "stop", "stop", "stop", "stop", "stop", "stop", "stop", "stop", "stop", "stop", "stop", "stop", "stop",
            "stop", "stop", "stop", "stop", "stop", "stop", "stop", "stop", "stop", "stop", "stop", "stop", "stop",
            "stop", "stop", "weak q");
        run("0 -1 0", 5426996910732593698L, 5426996910720538511L,
            "part 3", "from 300", "part 2", "align 2", "room 6", "room 5", "room 16", "room 37", "room 32", "room 5",
            "room 22", "room 20", "room 26", "stop", "part 1", "from 300", "room 2", "room 23", "room 3", "room 34",
            "room 10", "room 0", "room 15", "room 9", "room 20", "room 5", "room 0", "load =b", "load =a", "part 0",
            "room 40", "load =1", "load =1", "load =a", "load =2", "load =.", "load =b", "load =a", "load =.",
            "load =2", "load =.", "load =a", "load =a", "load =1", "load =1", "load =1", "load =2", "byte 1", "a:",
            "part 1", "b: let a+1");
        run("10 7 6", -4639317275144961960L, -4639317275144961960L,
            "a: let zz", "b: let 3", "c: byte 0 ;.", "d: let zz", "weak zz", "want uu", "byte d", "align c");
        run("0 -1 0", -2032697884395433120L, -2032697884396361105L,
            "want u", "want v", "weak w", "k: let 2", "part 3", "part 0", "stop", "from 100", "call w", "part 3",
            "a: load =k", "part 0", "part 1", "jump e", "b:", "c:", "from 0", "d:", "e: stop", "jump b", "room 5",
            "jump 500", "part 0", "jump f", "room k*2", "f: jump d", "part 2");
        run("0 -1 0", 5043099270170991922L, 5043099270159718152L,
            "part 0", "align 8", "room 27", "room 20", "room 28", "load =2", "stop", "part 1", "load =2", "load =2",
            "load =b", "load =2", "load =a", "load =a", "load =2", "load =2", "load =a", "load =.", "part 3",
            "align 4", "stop", "part 2", "align 2", "room 28", "room 14", "room 31", "room 23", "room 25", "room 22",
            "room 19", "room 35", "room 20", "room 6", "room 34", "stop", "a:", "part 1", "b: let a+1");
        run("0 -1 0", 5685555961014341653L, -8076280923690433750L,
            "want u", "want v", "weak w", "k: let 3", "jump c", "weak b", "part 1", "jump a", "a:", "part 3",
            "b: jump d", "load =5", "load =d", "jump d", "call d", "jump b", "stop", "stop", "word c", "stop",
            "jump d", "c: stop", "word .,.+2,v+1", "d:", "part 3", "stop");
        run("0 -1 0", 9051431924260665967L, -6505158241739384784L,
            "k: let 0", "l: let k+1", "word c-g ;x;y ", "if 1", "else", "want u", "want w", "load 135", "end",
            "jump c", "if 1", "byte 41,-8,52", "else", "from 100", "end", "a: byte 1", "b: let 5", "c: let 5",
            "d: let 5", "e:   let 5", "f: let 5 ", "g: let   5", "h: let 5", "i: let 5", "j: let 5");
        run("0 -1 0", 49240970188852535L, 2790861177002661249L,
            "m: macro", "byte %1", "stop", "@x:", "end", "repeat 5", "repeat 1", "m 1", "stop", "end", "end", "stop",
            "stop", "stop", "stop", "stop", "stop", "stop", "stop", "stop", "stop", "stop", "stop", "stop", "stop",
            "stop", "stop", "stop", "stop", "stop", "stop", "stop", "stop", "stop", "stop", "stop", "stop", "stop",
            "stop", "stop", "stop", "stop", "stop", "stop", "stop", "stop", "stop", "stop", "stop", "stop", "stop",
            "stop", "stop", "stop", "stop", "stop", "stop", "stop", "stop", "stop", "stop", "stop", "stop", "stop",
            "stop", "stop", "stop", "stop", "stop", "stop", "stop", "stop", "stop", "stop", "stop", "stop", "stop",
            "stop", "stop", "stop", "stop", "a: m 3");
        run("0 -1 0", -418926372479438283L, -7794013082464570934L,
            "m: macro", "stop", "end", "repeat 1", "repeat 1", "m 1", "stop", "end", "end", "stop", "stop", "stop",
            "stop", "stop", "stop", "stop", "stop", "stop", "stop", "stop", "weak q");
        run("0 -1 0", -8746463849958679081L, 359392003173716231L,
            "want u", "want v", "weak w", "k: let 3", "a: word b,u", "b:", "share a", "c:", "d:", "e: room 0",
            "jump 500", "f:", "g:", "h: byte 36,195,56");
        run("8 16 0", -2560906089914796481L, 6228649172535135436L,
            "m: macro", "stop", "byte %1", "end", "repeat 4", "repeat 0", "stop", "end", "end", "repeat 1",
            "repeat 1", "m 5", "end", "end", "repeat 3", "repeat 3", "q: m 1", "end", "end", "repeat 1", "repeat 4",
            "q: m 1", "end", "end", "stop", "stop", "stop", "stop", "stop", "stop", "stop", "stop", "stop", "stop",
            "stop", "stop", "stop", "stop", "stop", "stop", "stop", "stop", "stop", "stop", "stop", "stop", "stop",
            "stop", "stop", "stop", "stop", "stop", "stop", "stop", "stop", "stop", "stop", "b:");
        run("0 -1 0", 934550422072159561L, 5558566641528058918L,
            "m: macro", "byte %1", "stop", "stop", "jump @x", "byte %1", "@x:", "end", "repeat 3", "repeat 0", "m 1",
            "stop", "end", "end", "repeat 4", "repeat 2", "stop", "end", "end", "repeat 2", "repeat 0", "m 1",
            "stop", "end", "end", "stop", "stop", "stop", "stop", "stop", "stop", "stop", "stop");
        run("0 -1 0", -4644028869851836049L, -806189008563698722L,
            "q: macro", "word %1", "@y: byte 1", "word @y", "end", "p: macro", "word %1", "@y: byte 1", "word @y",
            "end", "m: macro", "@x: p %1", "end", "q 1+1", "m 1", "if 1", "if 1", "if 1", "stop", "end", "end",
            "end");
        run("3 13 19", -3991177359210290496L, -3991177359210290496L,
            "want w", "m : macro ; r 5  ", "word 0", "call  c", "end", "n: macro", "end", "call   b", "n d,11",
            "stop", "call b", "weak t", "word 3+(3),e", "x_0: word d,@y,0,8*.+9*d-h+a", "k: let 32767+a", "c: let 5",
            "d:", "e:", "f: stop", "h: stop", "i: stop", "j: let 5");
    }

    private static void sources2() {
        run("0 -1 0", -497743980220952538L, -6961822472989162254L,
            "want u", "want v", "weak w", "k: let 1", "jump a", "call a", "room 12", "byte 189,218", "a: call a");
        run("0 -1 0", -6710297096183556890L, -6710297096192027330L,
            "part 1", "room 31", "part 3", "load =1", "load =b", "load =a", "load =1", "byte 1", "part 0", "room 25",
            "room 3", "room 13", "byte 1", "part 2", "align 2", "room 33", "room 25", "room 7", "room 2", "room 21",
            "room 6", "room 13", "room 34", "room 11", "room 20", "room 19", "byte 1", "a:", "part 1", "b: let a+1");
        run("0 -1 0", 7133994578503708160L, -6009996650516594170L,
            "m: macro", "word %1", "end", "o: macro", "repeat 2", "m %1+%1", "end", "@y: byte 1", "word @y", "end",
            "n: macro", "@x: o %1", "@y: byte 1", "word @y", "end", "q: macro", "n %1+%1", "@y: byte 1", "word @y",
            "end", "o 2", "o 0", "m 1+1", "if 1", "if 1", "if 1", "stop", "end", "end", "end");
        run("15 -1 1", 1727946477194038666L, 1727946477194038666L,
            "part 3", "align 4", "load =2", "load =1", "load =2", "load =2", "load =2", "load =b", "load =2",
            "load =1", "load =2", "load =2", "load =a", "load =1", "load =.", "load =b", "byte 1", "part 2",
            "from 200", "room 27", "room 35", "room 8", "room 17", "room 10", "room 16", "room 10", "room 17",
            "room 25", "room 2", "room 37", "byte 1", "part 0", "room 30", "room 39", "room 31", "room 29",
            "room 14", "room 10", "room 35", "room 30", "room 17", "room 38", "room 20", "stop", "part 1", "from 50",
            "room 3", "room 37", "room 39", "a:", "part 1", "b: let a+1");
        run("12 5 6", 5639456696827799146L, 5639456696827799146L,
            "k: let 1", "l: let k+1", "want u", "n: macro", "end", "align 3", "from 100", "e: room 8");
        run("0 -1 0", -6347976890844008255L, 6220620292340758196L,
            "k: let 1", "l:  let k+1", "m: macro", "m 3-b,@x,e ;x;y ", "if 1", "stop", "byte 164,199", "end", "end",
            "n: macro", "jump h", "end", "if 1", "else", "stop", "word 10/6-3-a", "end", "room 15", " ",
            "a: ; r 5  ", "b:   byte 1", "c: byte 1", "d:", "f: stop", "g  : byte 1", "h: let 5", "i: stop",
            "j: byte 1  ");
        run("0 -1 0", -8406095818063503640L, -8199143035910187746L,
            "k: let 2", "l: let k+1", "want u", "m: macro", "room l", "end", "room 2", "part 2", "if 0", "load =c",
            "weak a", "  ", "else", "o: jump a", "h: stop", "jump a", "end", "a: let  5", " b:", "c: stop",
            "e: let 5", "f: byte 1", "g: stop", "i:  stop", "j : let 5");
        run("0 -1 0", -6574468949838277170L, 8585660740372686526L,
            "k: let 1", "l: let k+1", "want   u", "n: macro", "h:  let 21", "end", "load =128 ;x;y ", "f: let 1",
            "jump d", "a: let 5", "c: let 5", "d: byte 1", "e: stop", "g: byte 1", "h: stop", "i: byte 1", "j:");
        run("9 0 7", 4943815650339064659L, -263721882608437135L,
            "l: let k+1", "want u", "want w", "load =h-c", "h: let 29", "n: macro", " end", "g:   jump h",
            "word .,.,11-a/g*@x", "e: load =1 ;x;y ", "load 22", "x_0  : jump e", "jump h", "byte 12,239,235",
            "if 1", "c: load =127", "", "else", "jump e", "q: byte 26,h,71", "end", "jump a  ", "load =c-b",
            "load =32767+282-11", "o:   byte 84", "jump zz", "load =@y", "d: byte   171", "share d", "b: byte 1",
            "f: let 5", "i: ; r 5  ", "j: let 5");
        run("0 -1 0", 3797825552224402696L, 8404871059484419072L,
            "r: macro", "word %1", "end", "@y: byte 1", "word @y", "n: macro", "r %1,2", "end", "p: macro", "if %1",
            "@x: n %1", "end", "@y: byte 1", "word @y", "end", "p 1", "p 1", "r 1+1");
        run("0 -1 0", -6546143563113871249L, -6546143563114726074L,
            "want u", "want v", "weak w", "k: let 3", "word u", "a:", "from 500", "jump u", "b:", "c: jump d", "d:",
            "e: load =5");
        run("0 -1 0", 5740392515200978680L, 3497185897021068313L,
            "o: room 9", "e: jump b", "byte 38,81,159", "jump c", "j : stop", "jump g", "part  0", "jump h",
            "jump d", "jump c", "a: byte 1", "b: let 5", "c: byte 1", "d: stop", "f: byte 1", "g: stop", "h:",
            "i: stop");
        run("15 -1 2", 5986092779723485632L, 5986092779723485632L,
            "part 0", "load =2", "load =2", "load =a", "load =2", "load =1", "load =.", "load =2", "load =.",
            "load =b", "load =.", "load =1", "load =2", "load =a", "load =b", "load =a", "stop", "part 2", "from 0",
            "align 2", "room 26", "room 20", "room 38", "stop", "part 1", "room 11", "stop", "part 3", "from 0",
            "align 4", "load =b", "load =1", "load =1", "load =1", "load =b", "load =.", "load =1", "load =2",
            "load =.", "a:", "part 1", "b: let a+1");
        run("3 8 20", 8738917306242313289L, 8738917306242313289L,
            "want v", "want w", "n: macro", "end", "jump f", "weak s", "if 0", "else ", "word 2*4,g,($109)+8,d+@x",
            "align 3", "word h,h,g", "end", "jump h", "c: jump h", "want u", "stop", "d:", "e: let 5", "g: byte 1",
            "h:", "i: byte 1", "j:  stop");
    }

    private static void sources3() {
        run("9 23 8", 3566912925459018221L, -3753577110634005416L,
            "k: let 1", "l: let k+1", "m: macro", "repeat %2", "load 233", "end", "end", "o: load =7/5", "if l",
            "else", "l oad 233", "end", "a: load =3", "load =6-5", "c: stop", "h : stop ; hi", "stop",
            "byte 46,82,96", "repeat 1", "if 1", "end", "end", "b: byte 229", "e:   jump @x ; r 5  ", "q: jump h");
        run("10 2 5", 6631671279389522923L, 6631671279389522923L,
            "b: let b*2", "word b", "room b", "want uu", "a: let zz", "part a");
        run("9 10 9", 7683283920818725189L, -4073212898409965537L,
            "n: macro", "end  ", "if  1", "end", "jump h", "if 0", "load =9", "load 241", "share d", "else",
            "a: load =d*@y", "jump 10", "stop", "end", "jump c ; hi", "byte 162,154,11", "stop ;x;y ", "jump e  ",
            "want w", "i: jump 256", "h: load =6+g");
        run("4 19 0", 8192516535804235165L, 8192516535804235165L,
            "load =(.)", "a: load 68", "j: word e", "byte 157", "k: let 28 ", "stop", "room 8", "if 1  ", "if 1",
            " k: let 3", "repeat 2", "e: let (h)", "jump h", "jump a ; r 5  ", "end", "end", "end", "jump g",
            "jump   e", "sh  ar e g", "part a+41", "jump e", "jump h", "q: word byte,0*0*2", "stop");
        run("4 15 0", 7552702514717498804L, 7552702514717498804L,
            "k: let 2", "l: let k+1", "want u", "m: macro", "stop", "repea t 0", "room 10", "i f 0", "word e,1",
            "@y: room 19", "end", "part 0", "jump g", "repeat 1 ;", "end", "en d", "  c: jump h", "jump 1",
            "jump .*c", "room 3", "repeat 0", "load =32768", "end", "h: load =g", "a: byte 1", "b: stop", "d0:",
            "e:", "f: let 5", "g: let 5", "h: stop", "i: stop", "j: stop");
        run("4 14 0", 6039996811599821816L, 6039996811599821816L,
            "k: let 1", "l: let k+1", "want   w", "want v", "jump d", "align 8", "p: call  h", "f: jump g",
            "byte 180,64", "repeat 0", "@z: load 139", "end", "jump e", "stop", "repea t 1", "room 10",
            "word 8,-(1),255", " load =3-(e)", "end  ", "q: load =f+(1)-.+(5)", "repeat -e", "fr om 1", "room c",
            "room 7", "end", "load 229", "call @y", "call @y", "part  2", "share @y", "b: m ab,10,3", "jump e",
            "wan t w", "stop", "e: call b", "k: let 9", "jump @y", "jump @x", "load =f/10", "o  :", "jump b",
            "from 5", "weak @x", "d: stop", "h: byte 1", "i: stop", "j: stop");
        run("8 26 0", 6894514414235771622L, -5019958272957801798L,
            "k: let 0", "l: let k+1", "n: macro", "load 168", "w ant w", "@y: room 3", "jump (./4)-(.*e)", "end",
            "load 158", "if 1", "stop", "end", "call c", "load 173", "x_0: jump h", "", "part 1", "load 196",
            "jump -4", "repeat l", "word (c*6)", "end", "word 6/1,d,7", "@y: word f  ", " call a", "room 1",
            "@y: jump c", "load =--a_0");
        run("12 21 5", 5188031258737252892L, 5188031258737252892L,
            "k: let 1", "l: let k+1", "want v", "repeat 5", "weak v", "end", "load   =e", "d: load =d-g", "if 1",
            "share f", "else", "end", "h: word d", "word @x", "repeat 5", "if 0 ; r 5  ", "load =2",
            "word a,c/1,0,-65535", "else", "if 0", "else", "part 7", "end", "end", "end");
        run("8 11 0", -1215765716333834341L, 2503036041706514916L,
            "k: let 0", "l: let k+1", "n: macro", "want u", "stop", "if f+d", "n f,  2", "jump byte", "end", "end",
            "load =.", "k: let f", "part 1", "b: stop", "d:", "e: stop", "f:", "g:", "h: byte 1", "i: stop", "j:");
        run("5 1 0", -4422281704730775675L, -4422281704730775675L,
            "b: let .", "end", "a: let b*2", "align a", "weak zz", "align a", "align a", "align a");
        run("5 0 0", 900128299818630554L, 900128299818630554L,
            "end", "load 254", "align 1", "if 0", "else", "word 1,h,e+7-e", "call e", "end", "a: byt e 1",
            "b: byte 1", "c: byte 1", "e: stop", "g: stop", "h: stop", "i: byte 1", "j:");
        run("3 12 8", 5237265553682506691L, 5237265553682506691L,
            "k: let 3", "l: let k+1", "a : let k", "word g,((32767/a+2)-11),b", "d: jump g", "part 2   ;", "word d",
            "room 8", "g: jump e", "weak t", "call a", "h : byte 42,35,119", "byte 11  5 ; r 5  ", "stop",
            "b: let  e+f", "x_0: word 16,.,255", "load 158", "repeat 0", "end", "stop", "f: word c/(e+d),./8,a_b",
            "repeat 3 ; r 5  ", "jump b ; hi", "part . ;x;y ", "end", "jump e", "a: stop", "  c:", "e: stop",
            "i: let 5", "j: let 5");
        run("6 21 0", 3044892349335322951L, 3044892349335322951L,
            "o: macro", "word %1", "end", "q: macro", "o %1", "@y: byte 1", "word @y", "end", "r: macro", "q %1",
            "@y: byte 1", "word @y", "end", "n: macro", "@x: r %1", "end", "q 1+1", "if 1", "if 1", "if 1", "if 1",
            "if 1", "stop", "end", "end", "end", "end", "end");
        run("6 6 5", 7031888449016685166L, 7031888449016685166L,
            "n: macro", "word %1", "@y: byte 1", "word @y", "end", "p: macro", "@x: n %1", "end", "q: macro", "p %1",
            "end", "r: macro", "repeat 2", "@x: q %1", "end", "end", "r 1+1", "r 1+1");
    }

    private static void sources4() {
        run("11 2 9", 2316659966116885190L, -6081752969551004519L,
            "k: let 2", "l: let k+1", "g: let (0/(b))-$7f/.", "word g/9", "b:", " load 133", "jump e", "jump $ed",
            "jump d", "word   6", "stop", "call e", "load 149", "", "call d ; hi", "c: room 7+-1", "e: byte 247",
            "word 9,c", "byte 117", "weak t", "jump @x", "byte 186", "o: call b", "load =a", "jump h", "weak  e",
            "jump d", "repeat 0", "end", "byte 79,0", "f: jump g", "h: byte   164", "jump c", "jump (g)");
        run("14 0 9", 7147592822941167073L, 7147592822941167073L,
            "a: let b-a", "b: let uu", "c: let 5", "d: let a-d", "want uu", "word c");
        run("11 18 16", -9108110336406455820L, -6214918918707790129L,
            "want v", "want w", "m: macro", "share @x", "repeat c", "end", "end", "n: macro", "@y: r  oom 5",
            "weak v", "end ;x;y ", "room 1", "from 100", "c: call h", "b: byte 211,79,50", "word 0--3", "stop",
            "q: jump a", "h: word 0-(9),f/1,10/-2", "f: word e+-10,d--(16)*g", "o: word  e/7,1-3,d", "call  d",
            "call a", "j: byte 63", "byte 191,51,208", "if (0)", "else", "repeat 3", "weak v", "end", "end",
            "a: stop", "e: let 5", "i: stop");
        run("11 11 5", -7771599188494404195L, 8004591376354277702L,
            "a: byte 0 ;uu", "b: let zz", "c: byte 0 ;7", "d: let 7", "e: let zz", "f: let 5", "g: byte 0 ;3",
            "h: let 0", "weak zz", "want uu", "if d", "byte a", "end");
        run("7 55 0", -3430708075746410603L, -3430708075746410603L,
            "m: macro", "jump @x", "jump @x", "@x:", "end", "repeat 4", "repeat 0", "stop", "end", "end", "repeat 4",
            "repeat 5", "@x: m 2", "end", "end", "stop", "stop", "stop", "stop", "stop", "stop", "stop", "stop",
            "stop", "stop", "stop", "stop", "stop", "stop", "stop", "stop", "stop", "stop", "stop", "stop", "stop",
            "stop", "stop", "stop", "stop", "stop", "stop", "stop", "stop", "stop", "stop", "stop", "stop", "stop",
            "stop", "stop", "stop", "stop", "stop", "stop", "stop", "stop", "stop", "stop", "stop");
        run("12 6 6", -4792964841375231674L, -4792964841375231674L,
            "k: let 3", "l: let k+1 ;", "want v", "want w", "m: macro ; r 5  ", "end", "align 3", "repeat k",
            "jump 1", "end", "align 4", "stop", "room l", "jump f", "word 10-2,4,2 ;x;y ", "jump c", "repeat 0",
            "end", "if 0", "else", "word 6,32767-x_1,1", "end ", "o: jump e", "from 100", "word 9,e,@x,(h)",
            "l: let 24", "q: word 10,3,h*c,(10-0)", "jump a_0", "k: let 39", "word f", "word g-d", "a: stop", "b:",
            "d:", "e:", "f: stop", "g:", "h  :", "i:", "j: byte 1");
        run("14 1 7", 2177632030995132893L, 2177632030995132893L,
            "a: let uu", "d: let d*2", "e: let .", "f: let c*2", "g: let c", "want uu", "word b", "byte a");
        run("7 2 0", 6579441153752232232L, 6579441153752232232L,
            "m: macro", "stop", "byte %1", "byte %1", "byte %1", "@x:", "end", "repeat 4", "repeat 2", "m 5", "end",
            "end", "repeat 5", "repeat 4", "@x: m 2", "end", "end", "stop", "stop", "stop", "stop", "stop", "stop",
            "stop", "stop", "stop", "stop", "stop", "stop", "stop", "stop", "stop", "stop", "stop", "stop", "stop",
            "stop", "stop", "stop", "stop", "stop", "stop", "stop", "stop", "stop", "stop", "stop", "stop", "stop",
            "stop", "stop", "stop", "stop", "stop", "stop", "stop", "stop", "stop", "stop", "stop", "stop", "stop",
            "a: m 3");
        run("14 6 9", 5169266303380116342L, -7894550878439314828L,
            "g: let 3", "e: byte 0 ;zz", "want uu", "h: byte 0 ;g", "a: let uu", "c: byte 0 ;b-h", "d: let e-d",
            "f: let uu", "word a");
        run("7 28 0", -7312005894344930004L, -7312005894344930004L,
            "m: macro", "stop", "jump @x", "byte %1", "jump @x", "@x:", "end", "repeat 4", "repeat 5", "m 1", "stop",
            "end", "end", "repeat 0", "repeat 4", "m 1", "stop", "end", "end", "repeat 0", "repeat 3", "@x: m 2",
            "end", "end", "repeat 4", "repeat 3", "end", "end", "stop", "stop", "stop", "stop", "stop", "stop",
            "stop", "stop", "stop", "stop", "stop", "stop", "stop", "stop", "stop", "stop", "stop");
        run("13 18 9", 2160178529192316800L, 3728496165534459565L,
            "n: macro", "part 1", "repeat 0", "repeat 0", "@y: byte 129,129", "jump f", "weak v", "end", "end",
            "end", "n d", "share d", "weak t", "b: n a,0,d", "", "weak s ;", "jump f", "h: byte 187,241,8",
            "word 4,6/0", "x_0: jump -.  ", "jump g  ", "jump e", "jump c", "call c", "jump c", "align 16",
            "room 14", " weak t", "from 200", "jump d", "a: let 5", "c: byte 1", "d: byte 1", "e:", "f:", "g: stop",
            "j: let 5");
        run("16 0 18", -5182944093133836196L, -5182944093133836196L,
            "@y: word b,(a+5-%2)", "load =7 ", "word -4", "word %1-4", "e  nd", "stop", "word 6,1,2-d",
            "a: word 1,c,.", "b: stop", "c: stop", "d: stop", "e: stop", "f: byte 1", "g: stop", "h: byte 1", "i:",
            "j: byte 1");
        run("1 0 8", -5527341997267360642L, -5527341997267360642L,
            "k:   letA 2", "l: let k+1", "want v", "n: macro", "end", "wo  rd -3,$b2,1,2", "", "call b", "a: stop",
            "b:", "c:", "d: byte 1", "e: byte 1 ", "f:", "g: byte 1", "h: byte 1", "i: byte 1", "j:");
        run("1 16 4", 729732238796643711L, 729732238796643711L,
            "m: macro", " k: let %1", "jump g", "en  d ; r 5  ", "n: macro", "word 7+(@x)+g", "jump a", "end",
            "word .", "part 1", "byte 133,65", "l  oad =c", "p: stop", "b: load =(.)", "jump e", "x_0: stop",
            "jump@ 0", "i f c", "else", "load =h", "f: jump   c", "en  d", "m g", "a:", "c: byte 1", "d:   let 5",
            "e: byte 1", "g: let 5", "h: let 5", "i: by  te 1");
    }
}
