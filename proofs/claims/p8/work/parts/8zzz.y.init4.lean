/-! CONSTRUCTORS: JointSigns -/
def tX11 (G : Nat → ClassId) (A : Nat → Nat) (lz : Nat → Int64) : Nat → va_E := (ext 178 (ext 89 (ext 45 (ext 23 (ext 12 (ext 6 (ext 3 (fun i => [(.inl (G 4, 16, .inr (.inr (.inr (.inr (va_up (va_up (va_up (va_up (va_up (va_up (va_up (va_up (va_up (va_up (va_up (va_up (va_up (va_up (va_up (va_up (fun _ => none) 0 (some (A 248))) 1 (some (A 250))) 2 (some (A 252))) 3 (some (A 254))) 4 (some (A 256))) 5 (some (A 258))) 6 (some (A 260))) 7 (some (A 262))) 8 (some (A 264))) 9 (some (A 266))) 10 (some (A 268))) 11 (some (A 270))) 12 (some (A 272))) 13 (some (A 274))) 14 (some (A 276))) 15 (some (A 278)))))))), (.inr (0, [.ref (A 2), .int 0])), (.inl (G 0, 100, .inl (fun _ => 0)))].getD i zC) (fun i => [(.inr (9, [.ref (A 4), .ref (A 5), .ref (A 6), .long (0 : Int64)])), (.inl (G 1, 8, .inl (fun _ => 0))), (.inl (G 1, 64, .inl (fun _ => 0)))].getD i zC)) (ext 3 (fun i => [(.inr (0, [.ref (A 7), .int 0])), (.inl (G 0, 32, .inl (fun _ => 0))), (.inr (10, [.ref (A 9), .ref (A 92), .ref (A 94), .ref (A 96), .ref (A 3), .ref (A 98), .ref (A 100), .ref (A 102), .ref (A 104), .ref (A 106), .ref (A 110), .ref (A 114), .ref (A 115)]))].getD i zC) (fun i => [(.inr (2, [.ref (A 10), .ref (A 14), .ref (A 15), .ref (A 22), .ref (A 23), .ref (A 24), .ref (A 25), .ref (A 26), .ref (A 27)])), (.inr (6, [.ref (A 11), .ref (A 12), .ref (A 13), .int (0 : Int32)])), (cC (cd 55066263022277343669578718895168534326250603453777594175500187360389116729240))].getD i zC))) (ext 6 (ext 3 (fun i => [(cC (cd 32670510020758816978083085130507043184471273380659243275938904335757337482424)), (cC lz), (.inl (G 7, 16, .inr (.inr (.inr (.inr (va_up (va_up (va_up (va_up (va_up (va_up (va_up (va_up (va_up (va_up (va_up (va_up (va_up (va_up (va_up (va_up (fun _ => none) 0 (some (A 28))) 1 (some (A 32))) 2 (some (A 36))) 3 (some (A 40))) 4 (some (A 44))) 5 (some (A 48))) 6 (some (A 52))) 7 (some (A 56))) 8 (some (A 60))) 9 (some (A 64))) 10 (some (A 68))) 11 (some (A 72))) 12 (some (A 76))) 13 (some (A 80))) 14 (some (A 84))) 15 (some (A 88))))))))].getD i zC) (fun i => [(.inr (7, [.ref (A 16), .ref (A 17), .ref (A 18), .ref (A 19), .ref (A 20), .ref (A 21)])), zC, zC].getD i zC)) (ext 3 (fun i => [zC, zC, zC].getD i zC) (fun i => [zC, (cC (cd 1))].getD i zC)))) (ext 11 (ext 6 (ext 3 (fun i => [zC, zC, zC].getD i zC) (fun i => [zC, zC, (.inr (6, [.ref (A 29), .ref (A 30), .ref (A 31), .int (1 : Int32)]))].getD i zC)) (ext 3 (fun i => [zC, zC, zC].getD i zC) (fun i => [(.inr (6, [.ref (A 33), .ref (A 34), .ref (A 35), .int (1 : Int32)])), zC].getD i zC))) (ext 6 (ext 3 (fun i => [zC, zC, (.inr (6, [.ref (A 37), .ref (A 38), .ref (A 39), .int (1 : Int32)]))].getD i zC) (fun i => [zC, zC, zC].getD i zC)) (ext 3 (fun i => [(.inr (6, [.ref (A 41), .ref (A 42), .ref (A 43), .int (1 : Int32)])), zC, zC].getD i zC) (fun i => [zC, (.inr (6, [.ref (A 45), .ref (A 46), .ref (A 47), .int (1 : Int32)]))].getD i zC))))) (ext 22 (ext 11 (ext 6 (ext 3 (fun i => [zC, zC, zC].getD i zC) (fun i => [(.inr (6, [.ref (A 49), .ref (A 50), .ref (A 51), .int (1 : Int32)])), zC, zC].getD i zC)) (ext 3 (fun i => [zC, (.inr (6, [.ref (A 53), .ref (A 54), .ref (A 55), .int (1 : Int32)])), zC].getD i zC) (fun i => [zC, zC].getD i zC))) (ext 6 (ext 3 (fun i => [(.inr (6, [.ref (A 57), .ref (A 58), .ref (A 59), .int (1 : Int32)])), zC, zC].getD i zC) (fun i => [zC, (.inr (6, [.ref (A 61), .ref (A 62), .ref (A 63), .int (1 : Int32)])), zC].getD i zC)) (ext 3 (fun i => [zC, zC, (.inr (6, [.ref (A 65), .ref (A 66), .ref (A 67), .int (1 : Int32)]))].getD i zC) (fun i => [zC, zC].getD i zC)))) (ext 11 (ext 6 (ext 3 (fun i => [zC, (.inr (6, [.ref (A 69), .ref (A 70), .ref (A 71), .int (1 : Int32)])), zC].getD i zC) (fun i => [zC, zC, (.inr (6, [.ref (A 73), .ref (A 74), .ref (A 75), .int (1 : Int32)]))].getD i zC)) (ext 3 (fun i => [zC, zC, zC].getD i zC) (fun i => [(.inr (6, [.ref (A 77), .ref (A 78), .ref (A 79), .int (1 : Int32)])), zC].getD i zC))) (ext 6 (ext 3 (fun i => [zC, zC, (.inr (6, [.ref (A 81), .ref (A 82), .ref (A 83), .int (1 : Int32)]))].getD i zC) (fun i => [zC, zC, zC].getD i zC)) (ext 3 (fun i => [(.inr (6, [.ref (A 85), .ref (A 86), .ref (A 87), .int (1 : Int32)])), zC, zC].getD i zC) (fun i => [zC, (.inr (6, [.ref (A 89), .ref (A 90), .ref (A 91), .int (1 : Int32)]))].getD i zC)))))) (ext 45 (ext 23 (ext 12 (ext 6 (ext 3 (fun i => [zC, zC, zC].getD i zC) (fun i => [(.inr (8, [.ref (A 93)])), (.inl (G 2, 9, .inr (.inl (fun _ => 0)))), (.inr (0, [.ref (A 95), .int 0]))].getD i zC)) (ext 3 (fun i => [(.inl (G 0, 33, .inl (fun _ => 0))), (.inr (0, [.ref (A 97), .int 0])), (.inl (G 0, 32, .inl (fun _ => 0)))].getD i zC) (fun i => [(.inr (8, [.ref (A 99)])), (.inl (G 2, 9, .inr (.inl (fun _ => 0)))), (.inr (8, [.ref (A 101)]))].getD i zC))) (ext 6 (ext 3 (fun i => [(.inl (G 2, 9, .inr (.inl (fun _ => 0)))), (.inr (8, [.ref (A 103)])), (.inl (G 2, 9, .inr (.inl (fun _ => 0))))].getD i zC) (fun i => [(.inr (8, [.ref (A 105)])), (.inl (G 2, 9, .inr (.inl (fun _ => 0)))), (.inr (6, [.ref (A 107), .ref (A 108), .ref (A 109), .int (1 : Int32)]))].getD i zC)) (ext 3 (fun i => [zC, zC, zC].getD i zC) (fun i => [(.inr (6, [.ref (A 111), .ref (A 112), .ref (A 113), .int (1 : Int32)])), zC].getD i zC)))) (ext 11 (ext 6 (ext 3 (fun i => [zC, zC, zC].getD i zC) (fun i => [(.inr (0, [.ref (A 116), .int 0])), (.inl (G 0, 32, .inl (fun _ => 0))), (.inr (4, [.int (0 : Int32), .int (0 : Int32), .ref (A 118), .ref (A 3), .ref (A 8), .ref (A 9), .ref (A 120), .ref (A 121), .ref (A 123), .ref (A 125), .ref (A 127), .ref (A 129), .ref (A 131), .ref (A 133), .ref (A 135), .ref (A 137), .ref (A 139), .ref (A 143), .int (0 : Int32), .int (0 : Int32)]))].getD i zC)) (ext 3 (fun i => [(.inr (0, [.ref (A 119), .int 0])), (.inl (G 0, 32, .inl (fun _ => 0))), (.inl (G 6, 4, .inr (.inr (.inr (.inr (va_up (va_up (va_up (va_up (fun _ => none) 0 (some (A 147))) 1 (some (A 172))) 2 (some (A 197))) 3 (some (A 222))))))))].getD i zC) (fun i => [(.inr (0, [.ref (A 122), .int 0])), (.inl (G 0, 32, .inl (fun _ => 0)))].getD i zC))) (ext 6 (ext 3 (fun i => [(.inr (0, [.ref (A 124), .int 0])), (.inl (G 0, 32, .inl (fun _ => 0))), (.inr (0, [.ref (A 126), .int 0]))].getD i zC) (fun i => [(.inl (G 0, 66, .inl (fun _ => 0))), (.inr (0, [.ref (A 128), .int 0])), (.inl (G 0, 32, .inl (fun _ => 0)))].getD i zC)) (ext 3 (fun i => [(.inr (8, [.ref (A 130)])), (.inl (G 2, 9, .inr (.inl (fun _ => 0)))), (.inr (8, [.ref (A 132)]))].getD i zC) (fun i => [(.inl (G 2, 9, .inr (.inl (fun _ => 0)))), (.inr (8, [.ref (A 134)]))].getD i zC))))) (ext 22 (ext 11 (ext 6 (ext 3 (fun i => [(.inl (G 2, 9, .inr (.inl (fun _ => 0)))), (.inr (8, [.ref (A 136)])), (.inl (G 2, 9, .inr (.inl (fun _ => 0))))].getD i zC) (fun i => [(.inr (8, [.ref (A 138)])), (.inl (G 2, 9, .inr (.inl (fun _ => 0)))), (.inr (6, [.ref (A 140), .ref (A 141), .ref (A 142), .int (1 : Int32)]))].getD i zC)) (ext 3 (fun i => [zC, zC, zC].getD i zC) (fun i => [(.inr (6, [.ref (A 144), .ref (A 145), .ref (A 146), .int (1 : Int32)])), zC].getD i zC))) (ext 6 (ext 3 (fun i => [zC, zC, (.inr (5, [.ref (A 148), .ref (A 150), .ref (A 154), .int (0 : Int32), .ref (A 156), .ref (A 158), .ref (A 160), .int (0 : Int32), .ref (A 162), .ref (A 164), .ref (A 168)]))].getD i zC) (fun i => [(.inr (0, [.ref (A 149), .int 0])), (.inl (G 0, 33, .inl (fun _ => 0))), (.inr (6, [.ref (A 151), .ref (A 152), .ref (A 153), .int (1 : Int32)]))].getD i zC)) (ext 3 (fun i => [zC, zC, zC].getD i zC) (fun i => [(.inr (8, [.ref (A 155)])), (.inl (G 2, 9, .inr (.inl (fun _ => 0))))].getD i zC)))) (ext 11 (ext 6 (ext 3 (fun i => [(.inr (8, [.ref (A 157)])), (.inl (G 2, 9, .inr (.inl (fun _ => 0)))), (.inr (8, [.ref (A 159)]))].getD i zC) (fun i => [(.inl (G 2, 9, .inr (.inl (fun _ => 0)))), (.inr (0, [.ref (A 161), .int 0])), (.inl (G 0, 66, .inl (fun _ => 0)))].getD i zC)) (ext 3 (fun i => [(.inr (0, [.ref (A 163), .int 0])), (.inl (G 0, 66, .inl (fun _ => 0))), (.inr (6, [.ref (A 165), .ref (A 166), .ref (A 167), .int (1 : Int32)]))].getD i zC) (fun i => [zC, zC].getD i zC))) (ext 6 (ext 3 (fun i => [zC, (.inr (6, [.ref (A 169), .ref (A 170), .ref (A 171), .int (1 : Int32)])), zC].getD i zC) (fun i => [zC, zC, (.inr (5, [.ref (A 173), .ref (A 175), .ref (A 179), .int (0 : Int32), .ref (A 181), .ref (A 183), .ref (A 185), .int (0 : Int32), .ref (A 187), .ref (A 189), .ref (A 193)]))].getD i zC)) (ext 3 (fun i => [(.inr (0, [.ref (A 174), .int 0])), (.inl (G 0, 33, .inl (fun _ => 0))), (.inr (6, [.ref (A 176), .ref (A 177), .ref (A 178), .int (1 : Int32)]))].getD i zC) (fun i => [zC, zC].getD i zC))))))) (ext 89 (ext 45 (ext 23 (ext 12 (ext 6 (ext 3 (fun i => [zC, (.inr (8, [.ref (A 180)])), (.inl (G 2, 9, .inr (.inl (fun _ => 0))))].getD i zC) (fun i => [(.inr (8, [.ref (A 182)])), (.inl (G 2, 9, .inr (.inl (fun _ => 0)))), (.inr (8, [.ref (A 184)]))].getD i zC)) (ext 3 (fun i => [(.inl (G 2, 9, .inr (.inl (fun _ => 0)))), (.inr (0, [.ref (A 186), .int 0])), (.inl (G 0, 66, .inl (fun _ => 0)))].getD i zC) (fun i => [(.inr (0, [.ref (A 188), .int 0])), (.inl (G 0, 66, .inl (fun _ => 0))), (.inr (6, [.ref (A 190), .ref (A 191), .ref (A 192), .int (1 : Int32)]))].getD i zC))) (ext 6 (ext 3 (fun i => [zC, zC, zC].getD i zC) (fun i => [(.inr (6, [.ref (A 194), .ref (A 195), .ref (A 196), .int (1 : Int32)])), zC, zC].getD i zC)) (ext 3 (fun i => [zC, (.inr (5, [.ref (A 198), .ref (A 200), .ref (A 204), .int (0 : Int32), .ref (A 206), .ref (A 208), .ref (A 210), .int (0 : Int32), .ref (A 212), .ref (A 214), .ref (A 218)])), (.inr (0, [.ref (A 199), .int 0]))].getD i zC) (fun i => [(.inl (G 0, 33, .inl (fun _ => 0))), (.inr (6, [.ref (A 201), .ref (A 202), .ref (A 203), .int (1 : Int32)]))].getD i zC)))) (ext 11 (ext 6 (ext 3 (fun i => [zC, zC, zC].getD i zC) (fun i => [(.inr (8, [.ref (A 205)])), (.inl (G 2, 9, .inr (.inl (fun _ => 0)))), (.inr (8, [.ref (A 207)]))].getD i zC)) (ext 3 (fun i => [(.inl (G 2, 9, .inr (.inl (fun _ => 0)))), (.inr (8, [.ref (A 209)])), (.inl (G 2, 9, .inr (.inl (fun _ => 0))))].getD i zC) (fun i => [(.inr (0, [.ref (A 211), .int 0])), (.inl (G 0, 66, .inl (fun _ => 0)))].getD i zC))) (ext 6 (ext 3 (fun i => [(.inr (0, [.ref (A 213), .int 0])), (.inl (G 0, 66, .inl (fun _ => 0))), (.inr (6, [.ref (A 215), .ref (A 216), .ref (A 217), .int (1 : Int32)]))].getD i zC) (fun i => [zC, zC, zC].getD i zC)) (ext 3 (fun i => [(.inr (6, [.ref (A 219), .ref (A 220), .ref (A 221), .int (1 : Int32)])), zC, zC].getD i zC) (fun i => [zC, (.inr (5, [.ref (A 223), .ref (A 225), .ref (A 229), .int (0 : Int32), .ref (A 231), .ref (A 233), .ref (A 235), .int (0 : Int32), .ref (A 237), .ref (A 239), .ref (A 243)]))].getD i zC))))) (ext 22 (ext 11 (ext 6 (ext 3 (fun i => [(.inr (0, [.ref (A 224), .int 0])), (.inl (G 0, 33, .inl (fun _ => 0))), (.inr (6, [.ref (A 226), .ref (A 227), .ref (A 228), .int (1 : Int32)]))].getD i zC) (fun i => [zC, zC, zC].getD i zC)) (ext 3 (fun i => [(.inr (8, [.ref (A 230)])), (.inl (G 2, 9, .inr (.inl (fun _ => 0)))), (.inr (8, [.ref (A 232)]))].getD i zC) (fun i => [(.inl (G 2, 9, .inr (.inl (fun _ => 0)))), (.inr (8, [.ref (A 234)]))].getD i zC))) (ext 6 (ext 3 (fun i => [(.inl (G 2, 9, .inr (.inl (fun _ => 0)))), (.inr (0, [.ref (A 236), .int 0])), (.inl (G 0, 66, .inl (fun _ => 0)))].getD i zC) (fun i => [(.inr (0, [.ref (A 238), .int 0])), (.inl (G 0, 66, .inl (fun _ => 0))), (.inr (6, [.ref (A 240), .ref (A 241), .ref (A 242), .int (1 : Int32)]))].getD i zC)) (ext 3 (fun i => [zC, zC, zC].getD i zC) (fun i => [(.inr (6, [.ref (A 244), .ref (A 245), .ref (A 246), .int (1 : Int32)])), zC].getD i zC)))) (ext 11 (ext 6 (ext 3 (fun i => [zC, zC, (.inl (G 5, 4, .inr (.inr (.inr (.inr (va_up (va_up (va_up (va_up (fun _ => none) 0 (some (A 280))) 1 (some (A 299))) 2 (some (A 318))) 3 (some (A 337))))))))].getD i zC) (fun i => [(.inr (0, [.ref (A 249), .int 0])), (.inl (G 0, 100, .inl (fun _ => 0))), (.inr (0, [.ref (A 251), .int 0]))].getD i zC)) (ext 3 (fun i => [(.inl (G 0, 100, .inl (fun _ => 0))), (.inr (0, [.ref (A 253), .int 0])), (.inl (G 0, 100, .inl (fun _ => 0)))].getD i zC) (fun i => [(.inr (0, [.ref (A 255), .int 0])), (.inl (G 0, 100, .inl (fun _ => 0)))].getD i zC))) (ext 6 (ext 3 (fun i => [(.inr (0, [.ref (A 257), .int 0])), (.inl (G 0, 100, .inl (fun _ => 0))), (.inr (0, [.ref (A 259), .int 0]))].getD i zC) (fun i => [(.inl (G 0, 100, .inl (fun _ => 0))), (.inr (0, [.ref (A 261), .int 0])), (.inl (G 0, 100, .inl (fun _ => 0)))].getD i zC)) (ext 3 (fun i => [(.inr (0, [.ref (A 263), .int 0])), (.inl (G 0, 100, .inl (fun _ => 0))), (.inr (0, [.ref (A 265), .int 0]))].getD i zC) (fun i => [(.inl (G 0, 100, .inl (fun _ => 0))), (.inr (0, [.ref (A 267), .int 0]))].getD i zC)))))) (ext 45 (ext 23 (ext 12 (ext 6 (ext 3 (fun i => [(.inl (G 0, 100, .inl (fun _ => 0))), (.inr (0, [.ref (A 269), .int 0])), (.inl (G 0, 100, .inl (fun _ => 0)))].getD i zC) (fun i => [(.inr (0, [.ref (A 271), .int 0])), (.inl (G 0, 100, .inl (fun _ => 0))), (.inr (0, [.ref (A 273), .int 0]))].getD i zC)) (ext 3 (fun i => [(.inl (G 0, 100, .inl (fun _ => 0))), (.inr (0, [.ref (A 275), .int 0])), (.inl (G 0, 100, .inl (fun _ => 0)))].getD i zC) (fun i => [(.inr (0, [.ref (A 277), .int 0])), (.inl (G 0, 100, .inl (fun _ => 0))), (.inr (0, [.ref (A 279), .int 0]))].getD i zC))) (ext 6 (ext 3 (fun i => [(.inl (G 0, 100, .inl (fun _ => 0))), (.inr (3, [.ref (A 281), .ref (A 283), .ref (A 285), .ref (A 287), .ref (A 289), .ref (A 291), .ref (A 295)])), (.inr (0, [.ref (A 282), .int 0]))].getD i zC) (fun i => [(.inl (G 0, 32, .inl (fun _ => 0))), (.inr (0, [.ref (A 284), .int 0])), (.inl (G 0, 40, .inl (fun _ => 0)))].getD i zC)) (ext 3 (fun i => [(.inr (0, [.ref (A 286), .int 0])), (.inl (G 0, 64, .inl (fun _ => 0))), (.inr (8, [.ref (A 288)]))].getD i zC) (fun i => [(.inl (G 2, 9, .inr (.inl (fun _ => 0)))), (.inr (8, [.ref (A 290)]))].getD i zC)))) (ext 11 (ext 6 (ext 3 (fun i => [(.inl (G 2, 9, .inr (.inl (fun _ => 0)))), (.inr (6, [.ref (A 292), .ref (A 293), .ref (A 294), .int (1 : Int32)])), zC].getD i zC) (fun i => [zC, zC, (.inr (6, [.ref (A 296), .ref (A 297), .ref (A 298), .int (1 : Int32)]))].getD i zC)) (ext 3 (fun i => [zC, zC, zC].getD i zC) (fun i => [(.inr (3, [.ref (A 300), .ref (A 302), .ref (A 304), .ref (A 306), .ref (A 308), .ref (A 310), .ref (A 314)])), (.inr (0, [.ref (A 301), .int 0]))].getD i zC))) (ext 6 (ext 3 (fun i => [(.inl (G 0, 32, .inl (fun _ => 0))), (.inr (0, [.ref (A 303), .int 0])), (.inl (G 0, 40, .inl (fun _ => 0)))].getD i zC) (fun i => [(.inr (0, [.ref (A 305), .int 0])), (.inl (G 0, 64, .inl (fun _ => 0))), (.inr (8, [.ref (A 307)]))].getD i zC)) (ext 3 (fun i => [(.inl (G 2, 9, .inr (.inl (fun _ => 0)))), (.inr (8, [.ref (A 309)])), (.inl (G 2, 9, .inr (.inl (fun _ => 0))))].getD i zC) (fun i => [(.inr (6, [.ref (A 311), .ref (A 312), .ref (A 313), .int (1 : Int32)])), zC].getD i zC))))) (ext 22 (ext 11 (ext 6 (ext 3 (fun i => [zC, zC, (.inr (6, [.ref (A 315), .ref (A 316), .ref (A 317), .int (1 : Int32)]))].getD i zC) (fun i => [zC, zC, zC].getD i zC)) (ext 3 (fun i => [(.inr (3, [.ref (A 319), .ref (A 321), .ref (A 323), .ref (A 325), .ref (A 327), .ref (A 329), .ref (A 333)])), (.inr (0, [.ref (A 320), .int 0])), (.inl (G 0, 32, .inl (fun _ => 0)))].getD i zC) (fun i => [(.inr (0, [.ref (A 322), .int 0])), (.inl (G 0, 40, .inl (fun _ => 0)))].getD i zC))) (ext 6 (ext 3 (fun i => [(.inr (0, [.ref (A 324), .int 0])), (.inl (G 0, 64, .inl (fun _ => 0))), (.inr (8, [.ref (A 326)]))].getD i zC) (fun i => [(.inl (G 2, 9, .inr (.inl (fun _ => 0)))), (.inr (8, [.ref (A 328)])), (.inl (G 2, 9, .inr (.inl (fun _ => 0))))].getD i zC)) (ext 3 (fun i => [(.inr (6, [.ref (A 330), .ref (A 331), .ref (A 332), .int (1 : Int32)])), zC, zC].getD i zC) (fun i => [zC, (.inr (6, [.ref (A 334), .ref (A 335), .ref (A 336), .int (1 : Int32)]))].getD i zC)))) (ext 11 (ext 6 (ext 3 (fun i => [zC, zC, zC].getD i zC) (fun i => [(.inr (3, [.ref (A 338), .ref (A 340), .ref (A 342), .ref (A 344), .ref (A 346), .ref (A 348), .ref (A 352)])), (.inr (0, [.ref (A 339), .int 0])), (.inl (G 0, 32, .inl (fun _ => 0)))].getD i zC)) (ext 3 (fun i => [(.inr (0, [.ref (A 341), .int 0])), (.inl (G 0, 40, .inl (fun _ => 0))), (.inr (0, [.ref (A 343), .int 0]))].getD i zC) (fun i => [(.inl (G 0, 64, .inl (fun _ => 0))), (.inr (8, [.ref (A 345)]))].getD i zC))) (ext 6 (ext 3 (fun i => [(.inl (G 2, 9, .inr (.inl (fun _ => 0)))), (.inr (8, [.ref (A 347)])), (.inl (G 2, 9, .inr (.inl (fun _ => 0))))].getD i zC) (fun i => [(.inr (6, [.ref (A 349), .ref (A 350), .ref (A 351), .int (1 : Int32)])), zC, zC].getD i zC)) (ext 3 (fun i => [zC, (.inr (6, [.ref (A 353), .ref (A 354), .ref (A 355), .int (1 : Int32)])), zC].getD i zC) (fun i => [zC, zC].getD i zC))))))))

set_option maxHeartbeats 4000000 in
set_option maxRecDepth 100000 in
theorem c_i11 (l : Launch) (G : Nat → ClassId) (o : Nat) : jCv l yX11_init wsX11_init ({ frames := 5, cells := 356, slots := 5251, locals := 103 }) (356) (5251) G [.ref o] (fun L F => jF L F o (.inr (11, [.null, .null, .null, .null, .null, .null, .int 0, .int 0]))) (fun L F L1 F1 => ∃ A lz, gS L F o 356 A (tX11 G A lz) L1 F1 ∧ F1 o = (.inr (11, [.ref (A 0), .ref (A 1), .ref (A 3), .ref (A 8), .ref (A 117), .ref (A 247), .int (0 : Int32), .int (0 : Int32)])) ∧ cK 536887296 16793600 lz ∧ cV lz % (PP : Int) = ((1 % PP : Nat) : Int)) := by
  refine jm_vI (cc := cX11_init) (maxL := 2) (by decide) rfl (Nat.le_of_ble_eq_true rfl) rfl ?_
  intro E L F hE hinit hR hpre
  have hE : jOk E G _ cX11_init 2 RX11 wsX11_init := hE
  have ho := hpre
  have f11 : jFl RX11 wsX11_init 11 11 0 := ⟨rfl, by decide, by decide +kernel, by decide +kernel⟩
  have f18 : jFl RX11 wsX11_init 18 11 1 := ⟨rfl, by decide, by decide +kernel, by decide +kernel⟩
  have f25 : jFl RX11 wsX11_init 25 11 2 := ⟨rfl, by decide, by decide +kernel, by decide +kernel⟩
  have f37 : jFl RX11 wsX11_init 37 11 3 := ⟨rfl, by decide, by decide +kernel, by decide +kernel⟩
  have f46 : jFl RX11 wsX11_init 46 11 4 := ⟨rfl, by decide, by decide +kernel, by decide +kernel⟩
  have f52 : jFl RX11 wsX11_init 52 11 5 := ⟨rfl, by decide, by decide +kernel, by decide +kernel⟩
  have f56 : jFl RX11 wsX11_init 56 11 6 := ⟨rfl, by decide, by decide +kernel, by decide +kernel⟩
  have f60 : jFl RX11 wsX11_init 60 11 7 := ⟨rfl, by decide, by decide +kernel, by decide +kernel⟩
  refine jr_aload_n hE dX11_init_0 0 rfl ?_
  refine jr_objInit hE dX11_init_1 (by decide +kernel) (by decide +kernel) (by decide +kernel) ⟨Nat.le_of_ble_eq_true rfl, Nat.le_of_ble_eq_true rfl⟩ (Nat.le_of_ble_eq_true rfl) ?_
  refine jr_aload_n hE dX11_init_4 0 rfl ?_
  refine jr_bipush (v := (16 : Int32)) hE dX11_init_5 (by decide) ?_
  refine jr_newq (g := 4) (N := 16) (C := RX0) hE dX11_init_7 (by decide +kernel) (by decide) rfl (by decide) (by decide) (by decide) ⟨by decide, by decide⟩ (fun q1 F2 n3 g4 u5 => ?_)
  have g6 := (gS.nil (fun _ => 0) (fun _ => zC) ho.1).new n3 g4 u5
  have g7 := ho.nw n3 u5
  refine jr_putF (ty := .array (.object RX0)) hE dX11_init_10 f11 g7 rfl hinit rfl (by decide +kernel) rfl rfl (Nat.le_of_ble_eq_true rfl) (fun F8 g9 u10 => ?_)
  have g9 : jF (L ++ [q1]) F8 o (.inr (11, [.ref q1, .null, .null, .null, .null, .null, .int (0 : Int32), .int (0 : Int32)])) := g9
  have g11 := g6.put u10
  refine jr_aload_n hE dX11_init_13 0 rfl ?_
  refine jr_new (ci := 0) (fs := [.null, .int 0]) hE dX11_init_14 rfl (by decide +kernel) (by decide +kernel) (by decide +kernel) (by decide +kernel) dfX0 ⟨by decide, by decide⟩ (fun q12 F13 n14 g15 u16 => ?_)
  have g17 := g11.new n14 g15 u16
  have g18 := g9.nw n14 u16
  refine jr_dup hE dX11_init_17 rfl ?_
  refine jr_bipush (v := (100 : Int32)) hE dX11_init_18 (by decide) ?_
  have e22 : jF ((L ++ [q1]) ++ [q12]) F13 q12 (.inr (0, [.null, .int 0])) := g17.at 1 (by decide)
  refine jr_callIv (n := 1) (As := [.int (100 : Int32)]) (rest := [.ref q12, .ref o]) hE dX11_init_20 (fun l => c_i0 l G q12 100) ggX11_init_X0_init (by decide +kernel) (by decide +kernel) (by decide +kernel) rfl rfl ⟨by decide, by decide, by decide +kernel⟩ ⟨rfl, rfl, by decide, by decide⟩ ⟨by decide, by decide⟩ rfl rfl (Nat.le_of_ble_eq_true rfl) (⟨e22, by decide⟩) (fun L19 F20 q21 => ?_)
  obtain ⟨B23, gB23, hB23⟩ := q21
  have g25 := g17.oC (k := 1) (by decide) gB23 g18
  have g24 := g17.call (k := 1) (by decide) gB23 hB23
  refine jr_putF (ty := .object RX0) hE dX11_init_23 f18 g25 rfl hinit rfl (by decide +kernel) rfl rfl (Nat.le_of_ble_eq_true rfl) (fun F26 g27 u28 => ?_)
  have g27 : jF L19 F26 o (.inr (11, [.ref q1, .ref q12, .null, .null, .null, .null, .int (0 : Int32), .int (0 : Int32)])) := g27
  have g29 := g24.put u28
  refine jr_aload_n hE dX11_init_26 0 rfl ?_
  refine jr_new (ci := 9) (fs := [.null, .null, .null, .long 0]) hE dX11_init_27 rfl (by decide +kernel) (by decide +kernel) (by decide +kernel) (by decide +kernel) dfX9 ⟨by decide, by decide⟩ (fun q30 F31 n32 g33 u34 => ?_)
  have g35 := g29.new n32 g33 u34
  have g36 := g27.nw n32 u34
  refine jr_dup hE dX11_init_30 rfl ?_
  have e40 : jF (L19 ++ [q30]) F31 q30 (.inr (9, [.null, .null, .null, .long 0])) := g35.at 3 (by decide)
  refine jr_callNv (n := 0) (As := []) (rest := [.ref q30, .ref o]) hE dX11_init_31 (fun l => c_i9 l G q30) ggX11_init_X9_init (by decide +kernel) (by decide) (by decide +kernel) rfl rfl ⟨by decide, by decide, by decide +kernel⟩ ⟨rfl, rfl, by decide, by decide⟩ ⟨by decide, by decide⟩ rfl rfl (Nat.le_of_ble_eq_true rfl) (e40) (fun L37 F38 q39 => ?_)
  obtain ⟨B41, gB41, hB41⟩ := q39
  have g43 := g35.oC (k := 3) (by decide) gB41 g36
  have g42 := g35.call (k := 3) (by decide) gB41 hB41
  refine jr_putF (ty := .object RX9) hE dX11_init_34 f25 g43 rfl hinit rfl (by decide +kernel) rfl rfl (Nat.le_of_ble_eq_true rfl) (fun F44 g45 u46 => ?_)
  have g45 : jF L37 F44 o (.inr (11, [.ref q1, .ref q12, .ref q30, .null, .null, .null, .int (0 : Int32), .int (0 : Int32)])) := g45
  have g47 := g42.put u46
  refine jr_aload_n hE dX11_init_37 0 rfl ?_
  refine jr_new (ci := 10) (fs := [.null, .null, .null, .null, .null, .null, .null, .null, .null, .null, .null, .null, .null]) hE dX11_init_38 rfl (by decide +kernel) (by decide +kernel) (by decide +kernel) (by decide +kernel) dfX10 ⟨by decide, by decide⟩ (fun q48 F49 n50 g51 u52 => ?_)
  have g53 := g47.new n50 g51 u52
  have g54 := g45.nw n50 u52
  refine jr_dup hE dX11_init_41 rfl ?_
  refine jr_aload_n hE dX11_init_42 0 rfl ?_
  refine jr_get hE dX11_init_43 f25 g54 rfl ?_
  refine jr_new (ci := 2) (fs := [.null, .null, .null, .null, .null, .null, .null, .null, .null]) hE dX11_init_46 rfl (by decide +kernel) (by decide +kernel) (by decide +kernel) (by decide +kernel) dfX2 ⟨by decide, by decide⟩ (fun q55 F56 n57 g58 u59 => ?_)
  have g60 := g53.new n57 g58 u59
  have g61 := g54.nw n57 u59
  refine jr_dup hE dX11_init_49 rfl ?_
  have e65 : jF ((L37 ++ [q48]) ++ [q55]) F56 q55 (.inr (2, [.null, .null, .null, .null, .null, .null, .null, .null, .null])) := g60.at 9 (by decide)
  refine jr_callIv (n := 0) (As := []) (rest := [.ref q55, .ref q30, .ref q48, .ref q48, .ref o]) hE dX11_init_50 (fun l => c_i2 l G q55) ggX11_init_X2_init (by decide +kernel) (by decide +kernel) (by decide +kernel) rfl rfl ⟨by decide, by decide, by decide +kernel⟩ ⟨rfl, rfl, by decide, by decide⟩ ⟨by decide, by decide⟩ rfl rfl (Nat.le_of_ble_eq_true rfl) (e65) (fun L62 F63 q64 => ?_)
  obtain ⟨B66, lzB66, gB66, hB66, hzB66⟩ := q64
  have g68 := g60.oC (k := 9) (by decide) gB66 g61
  have g67 := g60.call (k := 9) (by decide) gB66 hB66
  have e72 : jF L62 F63 q48 (.inr (10, [.null, .null, .null, .null, .null, .null, .null, .null, .null, .null, .null, .null, .null])) := g67.at 8 (by decide)
  refine jr_callIv (n := 2) (As := [.ref q30, .ref q55]) (rest := [.ref q48, .ref o]) hE dX11_init_53 (fun l => c_i10 l G q48 q30 q55) ggX11_init_X10_init (by decide +kernel) (by decide +kernel) (by decide +kernel) rfl rfl ⟨by decide, by decide, by decide +kernel⟩ ⟨rfl, rfl, by decide, by decide⟩ ⟨by decide, by decide⟩ rfl rfl (Nat.le_of_ble_eq_true rfl) (e72) (fun L69 F70 q71 => ?_)
  obtain ⟨B73, gB73, hB73⟩ := q71
  have g75 := g67.oC (k := 8) (by decide) gB73 g68
  have g74 := g67.call (k := 8) (by decide) gB73 hB73
  refine jr_putF (ty := .object RX10) hE dX11_init_56 f37 g75 rfl hinit rfl (by decide +kernel) rfl rfl (Nat.le_of_ble_eq_true rfl) (fun F76 g77 u78 => ?_)
  have g77 : jF L69 F76 o (.inr (11, [.ref q1, .ref q12, .ref q30, .ref q48, .null, .null, .int (0 : Int32), .int (0 : Int32)])) := g77
  have g79 := g74.put u78
  refine jr_aload_n hE dX11_init_59 0 rfl ?_
  refine jr_new (ci := 4) (fs := [.int 0, .int 0, .null, .null, .null, .null, .null, .null, .null, .null, .null, .null, .null, .null, .null, .null, .null, .null, .int 0, .int 0]) hE dX11_init_60 rfl (by decide +kernel) (by decide +kernel) (by decide +kernel) (by decide +kernel) dfX4 ⟨by decide, by decide⟩ (fun q80 F81 n82 g83 u84 => ?_)
  have g85 := g79.new n82 g83 u84
  have g86 := g77.nw n82 u84
  refine jr_dup hE dX11_init_63 rfl ?_
  refine jr_aload_n hE dX11_init_64 0 rfl ?_
  refine jr_get hE dX11_init_65 f25 g86 rfl ?_
  refine jr_aload_n hE dX11_init_68 0 rfl ?_
  refine jr_get hE dX11_init_69 f37 g86 rfl ?_
  have e90 : jF (L69 ++ [q80]) F81 q80 (.inr (4, [.int 0, .int 0, .null, .null, .null, .null, .null, .null, .null, .null, .null, .null, .null, .null, .null, .null, .null, .null, .int 0, .int 0])) := g85.at 117 (by decide)
  have e91 : jF (L69 ++ [q80]) F81 q48 (.inr (10, [.ref q55, .ref (B73 0), .ref (B73 2), .ref (B73 4), .ref q30, .ref (B73 6), .ref (B73 8), .ref (B73 10), .ref (B73 12), .ref (B73 14), .ref (B73 18), .ref (B73 22), .ref (B73 23)])) := g85.at 8 (by decide)
  refine jr_callIv (n := 2) (As := [.ref q30, .ref q48]) (rest := [.ref q80, .ref o]) hE dX11_init_72 (fun l => c_i4 l G q80 q30 q48 q55 _) ggX11_init_X4_init (by decide +kernel) (by decide +kernel) (by decide +kernel) rfl rfl ⟨by decide, by decide, by decide +kernel⟩ ⟨rfl, rfl, by decide, by decide⟩ ⟨by decide, by decide⟩ rfl rfl (Nat.le_of_ble_eq_true rfl) (⟨e90, e91, rfl, fun e => absurd (g85.2.2.2.1 8 117 (by decide) (by decide) e) (by decide)⟩) (fun L87 F88 q89 => ?_)
  obtain ⟨B92, gB92, hB92⟩ := q89
  have g94 := g85.oC (k := 117) (by decide) gB92 g86
  have g93 := g85.call (k := 117) (by decide) gB92 hB92
  refine jr_putF (ty := .object RX4) hE dX11_init_75 f46 g94 rfl hinit rfl (by decide +kernel) rfl rfl (Nat.le_of_ble_eq_true rfl) (fun F95 g96 u97 => ?_)
  have g96 : jF L87 F95 o (.inr (11, [.ref q1, .ref q12, .ref q30, .ref q48, .ref q80, .null, .int (0 : Int32), .int (0 : Int32)])) := g96
  have g98 := g93.put u97
  refine jr_aload_n hE dX11_init_78 0 rfl ?_
  refine jr_iconst (v := (4 : Int32)) hE dX11_init_79 (by decide) ?_
  refine jr_newq (g := 5) (N := 4) (C := RX3) hE dX11_init_80 (by decide +kernel) (by decide) rfl (by decide) (by decide) (by decide) ⟨by decide, by decide⟩ (fun q99 F100 n101 g102 u103 => ?_)
  have g104 := g98.new n101 g102 u103
  have g105 := g96.nw n101 u103
  refine jr_putF (ty := .array (.object RX3)) hE dX11_init_83 f52 g105 rfl hinit rfl (by decide +kernel) rfl rfl (Nat.le_of_ble_eq_true rfl) (fun F106 g107 u108 => ?_)
  have g107 : jF (L87 ++ [q99]) F106 o (.inr (11, [.ref q1, .ref q12, .ref q30, .ref q48, .ref q80, .ref q99, .int (0 : Int32), .int (0 : Int32)])) := g107
  have g109 := g104.put u108
  refine jr_aload_n hE dX11_init_86 0 rfl ?_
  refine jr_iconst (v := (0 : Int32)) hE dX11_init_87 (by decide) ?_
  refine jr_put (ty := .int) hE dX11_init_88 f56 g107 rfl (by decide +kernel) rfl rfl (Nat.le_of_ble_eq_true rfl) (fun F110 g111 u112 => ?_)
  have g111 : jF (L87 ++ [q99]) F110 o (.inr (11, [.ref q1, .ref q12, .ref q30, .ref q48, .ref q80, .ref q99, .int (0 : Int32), .int (0 : Int32)])) := g111
  have g113 := g109.put u112
  refine jr_aload_n hE dX11_init_91 0 rfl ?_
  refine jr_iconst (v := (0 : Int32)) hE dX11_init_92 (by decide) ?_
  refine jr_put (ty := .int) hE dX11_init_93 f60 g111 rfl (by decide +kernel) rfl rfl (Nat.le_of_ble_eq_true rfl) (fun F114 g115 u116 => ?_)
  have g115 : jF (L87 ++ [q99]) F114 o (.inr (11, [.ref q1, .ref q12, .ref q30, .ref q48, .ref q80, .ref q99, .int (0 : Int32), .int (0 : Int32)])) := g115
  have g117 := g113.put u116
  refine jr_iconst (v := (0 : Int32)) hE dX11_init_96 (by decide) ?_
  refine jr_istore_n (lv' := [(1, .int (0 : Int32)), (0, .ref o)]) hE dX11_init_97 (by decide) rfl ?_
  refine jr_iload_n hE dX11_init_98 0 rfl ?_
  refine jr_bipush (v := (16 : Int32)) hE dX11_init_99 (by decide) ?_
  refine jr_icmp_ge (tgt := 125) hE dX11_init_101 (by decide) (fun c118 => absurd c118 (by decide)) (fun c118 => ?_)
  refine jr_aload_n hE dX11_init_104 1 rfl ?_
  refine jr_get hE dX11_init_105 f11 g115 rfl ?_
  refine jr_iload_n hE dX11_init_108 0 rfl ?_
  refine jr_new (ci := 0) (fs := [.null, .int 0]) hE dX11_init_109 rfl (by decide +kernel) (by decide +kernel) (by decide +kernel) (by decide +kernel) dfX0 ⟨by decide, by decide⟩ (fun q119 F120 n121 g122 u123 => ?_)
  have g124 := g117.new n121 g122 u123
  have g125 := g115.nw n121 u123
  refine jr_dup hE dX11_init_112 rfl ?_
  refine jr_bipush (v := (100 : Int32)) hE dX11_init_113 (by decide) ?_
  have e129 : jF ((L87 ++ [q99]) ++ [q119]) F120 q119 (.inr (0, [.null, .int 0])) := g124.at 248 (by decide)
  refine jr_callIv (n := 1) (As := [.int (100 : Int32)]) (rest := [.ref q119, .int (0 : Int32), .ref q1]) hE dX11_init_115 (fun l => c_i0 l G q119 100) ggX11_init_X0_init (by decide +kernel) (by decide +kernel) (by decide +kernel) rfl rfl ⟨by decide, by decide, by decide +kernel⟩ ⟨rfl, rfl, by decide, by decide⟩ ⟨by decide, by decide⟩ rfl rfl (Nat.le_of_ble_eq_true rfl) (⟨e129, by decide⟩) (fun L126 F127 q128 => ?_)
  obtain ⟨B130, gB130, hB130⟩ := q128
  have g132 := g124.oC (k := 248) (by decide) gB130 g125
  have g131 := g124.call (k := 248) (by decide) gB130 hB130
  have e136 : jF L126 F127 q1 (.inl (G 4, 16, .inr (.inr (.inr (.inr (fun _ => none)))))) := g131.at 0 (by decide)
  have e137 : jF L126 F127 q119 (.inr (0, [.ref (B130 0), .int 0])) := g131.at 248 (by decide)
  refine jr_astq (C := RX0) hE dX11_init_118 e136 e137 rfl rfl (vp_lit (by decide)) (fun F133 g134 u135 => ?_)
  have g138 := g131.set 0 (by decide) g134.2 u135
  have g139 := g131.oS 0 (by decide) u135 g132
  refine jr_iinc (v := (1 : Int32)) (lv' := [(1, .int (1 : Int32)), (0, .ref o)]) hE dX11_init_119 0 rfl (by decide) (by decide) rfl ?_
  refine jr_goto (tgt := 98) hE dX11_init_122 (by decide) ?_
  refine jr_iload_n hE dX11_init_98 0 rfl ?_
  refine jr_bipush (v := (16 : Int32)) hE dX11_init_99 (by decide) ?_
  refine jr_icmp_ge (tgt := 125) hE dX11_init_101 (by decide) (fun c140 => absurd c140 (by decide)) (fun c140 => ?_)
  refine jr_aload_n hE dX11_init_104 1 rfl ?_
  refine jr_get hE dX11_init_105 f11 g139 rfl ?_
  refine jr_iload_n hE dX11_init_108 0 rfl ?_
  refine jr_new (ci := 0) (fs := [.null, .int 0]) hE dX11_init_109 rfl (by decide +kernel) (by decide +kernel) (by decide +kernel) (by decide +kernel) dfX0 ⟨by decide, by decide⟩ (fun q141 F142 n143 g144 u145 => ?_)
  have g146 := g138.new n143 g144 u145
  have g147 := g139.nw n143 u145
  refine jr_dup hE dX11_init_112 rfl ?_
  refine jr_bipush (v := (100 : Int32)) hE dX11_init_113 (by decide) ?_
  have e151 : jF (L126 ++ [q141]) F142 q141 (.inr (0, [.null, .int 0])) := g146.at 250 (by decide)
  refine jr_callIv (n := 1) (As := [.int (100 : Int32)]) (rest := [.ref q141, .int (1 : Int32), .ref q1]) hE dX11_init_115 (fun l => c_i0 l G q141 100) ggX11_init_X0_init (by decide +kernel) (by decide +kernel) (by decide +kernel) rfl rfl ⟨by decide, by decide, by decide +kernel⟩ ⟨rfl, rfl, by decide, by decide⟩ ⟨by decide, by decide⟩ rfl rfl (Nat.le_of_ble_eq_true rfl) (⟨e151, by decide⟩) (fun L148 F149 q150 => ?_)
  obtain ⟨B152, gB152, hB152⟩ := q150
  have g154 := g146.oC (k := 250) (by decide) gB152 g147
  have g153 := g146.call (k := 250) (by decide) gB152 hB152
  have e158 : jF L148 F149 q1 (.inl (G 4, 16, .inr (.inr (.inr (.inr (va_up (fun _ => none) 0 (some q119))))))) := g153.at 0 (by decide)
  have e159 : jF L148 F149 q141 (.inr (0, [.ref (B152 0), .int 0])) := g153.at 250 (by decide)
  refine jr_astq (C := RX0) hE dX11_init_118 e158 e159 rfl rfl (vp_lit (by decide)) (fun F155 g156 u157 => ?_)
  have g160 := g153.set 0 (by decide) g156.2 u157
  have g161 := g153.oS 0 (by decide) u157 g154
  refine jr_iinc (v := (2 : Int32)) (lv' := [(1, .int (2 : Int32)), (0, .ref o)]) hE dX11_init_119 0 rfl (by decide) (by decide) rfl ?_
  refine jr_goto (tgt := 98) hE dX11_init_122 (by decide) ?_
  refine jr_iload_n hE dX11_init_98 0 rfl ?_
  refine jr_bipush (v := (16 : Int32)) hE dX11_init_99 (by decide) ?_
  refine jr_icmp_ge (tgt := 125) hE dX11_init_101 (by decide) (fun c162 => absurd c162 (by decide)) (fun c162 => ?_)
  refine jr_aload_n hE dX11_init_104 1 rfl ?_
  refine jr_get hE dX11_init_105 f11 g161 rfl ?_
  refine jr_iload_n hE dX11_init_108 0 rfl ?_
  refine jr_new (ci := 0) (fs := [.null, .int 0]) hE dX11_init_109 rfl (by decide +kernel) (by decide +kernel) (by decide +kernel) (by decide +kernel) dfX0 ⟨by decide, by decide⟩ (fun q163 F164 n165 g166 u167 => ?_)
  have g168 := g160.new n165 g166 u167
  have g169 := g161.nw n165 u167
  refine jr_dup hE dX11_init_112 rfl ?_
  refine jr_bipush (v := (100 : Int32)) hE dX11_init_113 (by decide) ?_
  have e173 : jF (L148 ++ [q163]) F164 q163 (.inr (0, [.null, .int 0])) := g168.at 252 (by decide)
  refine jr_callIv (n := 1) (As := [.int (100 : Int32)]) (rest := [.ref q163, .int (2 : Int32), .ref q1]) hE dX11_init_115 (fun l => c_i0 l G q163 100) ggX11_init_X0_init (by decide +kernel) (by decide +kernel) (by decide +kernel) rfl rfl ⟨by decide, by decide, by decide +kernel⟩ ⟨rfl, rfl, by decide, by decide⟩ ⟨by decide, by decide⟩ rfl rfl (Nat.le_of_ble_eq_true rfl) (⟨e173, by decide⟩) (fun L170 F171 q172 => ?_)
  obtain ⟨B174, gB174, hB174⟩ := q172
  have g176 := g168.oC (k := 252) (by decide) gB174 g169
  have g175 := g168.call (k := 252) (by decide) gB174 hB174
  have e180 : jF L170 F171 q1 (.inl (G 4, 16, .inr (.inr (.inr (.inr (va_up (va_up (fun _ => none) 0 (some q119)) 1 (some q141))))))) := g175.at 0 (by decide)
  have e181 : jF L170 F171 q163 (.inr (0, [.ref (B174 0), .int 0])) := g175.at 252 (by decide)
  refine jr_astq (C := RX0) hE dX11_init_118 e180 e181 rfl rfl (vp_lit (by decide)) (fun F177 g178 u179 => ?_)
  have g182 := g175.set 0 (by decide) g178.2 u179
  have g183 := g175.oS 0 (by decide) u179 g176
  refine jr_iinc (v := (3 : Int32)) (lv' := [(1, .int (3 : Int32)), (0, .ref o)]) hE dX11_init_119 0 rfl (by decide) (by decide) rfl ?_
  refine jr_goto (tgt := 98) hE dX11_init_122 (by decide) ?_
  refine jr_iload_n hE dX11_init_98 0 rfl ?_
  refine jr_bipush (v := (16 : Int32)) hE dX11_init_99 (by decide) ?_
  refine jr_icmp_ge (tgt := 125) hE dX11_init_101 (by decide) (fun c184 => absurd c184 (by decide)) (fun c184 => ?_)
  refine jr_aload_n hE dX11_init_104 1 rfl ?_
  refine jr_get hE dX11_init_105 f11 g183 rfl ?_
  refine jr_iload_n hE dX11_init_108 0 rfl ?_
  refine jr_new (ci := 0) (fs := [.null, .int 0]) hE dX11_init_109 rfl (by decide +kernel) (by decide +kernel) (by decide +kernel) (by decide +kernel) dfX0 ⟨by decide, by decide⟩ (fun q185 F186 n187 g188 u189 => ?_)
  have g190 := g182.new n187 g188 u189
  have g191 := g183.nw n187 u189
  refine jr_dup hE dX11_init_112 rfl ?_
  refine jr_bipush (v := (100 : Int32)) hE dX11_init_113 (by decide) ?_
  have e195 : jF (L170 ++ [q185]) F186 q185 (.inr (0, [.null, .int 0])) := g190.at 254 (by decide)
  refine jr_callIv (n := 1) (As := [.int (100 : Int32)]) (rest := [.ref q185, .int (3 : Int32), .ref q1]) hE dX11_init_115 (fun l => c_i0 l G q185 100) ggX11_init_X0_init (by decide +kernel) (by decide +kernel) (by decide +kernel) rfl rfl ⟨by decide, by decide, by decide +kernel⟩ ⟨rfl, rfl, by decide, by decide⟩ ⟨by decide, by decide⟩ rfl rfl (Nat.le_of_ble_eq_true rfl) (⟨e195, by decide⟩) (fun L192 F193 q194 => ?_)
  obtain ⟨B196, gB196, hB196⟩ := q194
  have g198 := g190.oC (k := 254) (by decide) gB196 g191
  have g197 := g190.call (k := 254) (by decide) gB196 hB196
  have e202 : jF L192 F193 q1 (.inl (G 4, 16, .inr (.inr (.inr (.inr (va_up (va_up (va_up (fun _ => none) 0 (some q119)) 1 (some q141)) 2 (some q163))))))) := g197.at 0 (by decide)
  have e203 : jF L192 F193 q185 (.inr (0, [.ref (B196 0), .int 0])) := g197.at 254 (by decide)
  refine jr_astq (C := RX0) hE dX11_init_118 e202 e203 rfl rfl (vp_lit (by decide)) (fun F199 g200 u201 => ?_)
  have g204 := g197.set 0 (by decide) g200.2 u201
  have g205 := g197.oS 0 (by decide) u201 g198
  refine jr_iinc (v := (4 : Int32)) (lv' := [(1, .int (4 : Int32)), (0, .ref o)]) hE dX11_init_119 0 rfl (by decide) (by decide) rfl ?_
  refine jr_goto (tgt := 98) hE dX11_init_122 (by decide) ?_
  refine jr_iload_n hE dX11_init_98 0 rfl ?_
  refine jr_bipush (v := (16 : Int32)) hE dX11_init_99 (by decide) ?_
  refine jr_icmp_ge (tgt := 125) hE dX11_init_101 (by decide) (fun c206 => absurd c206 (by decide)) (fun c206 => ?_)
  refine jr_aload_n hE dX11_init_104 1 rfl ?_
  refine jr_get hE dX11_init_105 f11 g205 rfl ?_
  refine jr_iload_n hE dX11_init_108 0 rfl ?_
  refine jr_new (ci := 0) (fs := [.null, .int 0]) hE dX11_init_109 rfl (by decide +kernel) (by decide +kernel) (by decide +kernel) (by decide +kernel) dfX0 ⟨by decide, by decide⟩ (fun q207 F208 n209 g210 u211 => ?_)
  have g212 := g204.new n209 g210 u211
  have g213 := g205.nw n209 u211
  refine jr_dup hE dX11_init_112 rfl ?_
  refine jr_bipush (v := (100 : Int32)) hE dX11_init_113 (by decide) ?_
  have e217 : jF (L192 ++ [q207]) F208 q207 (.inr (0, [.null, .int 0])) := g212.at 256 (by decide)
  refine jr_callIv (n := 1) (As := [.int (100 : Int32)]) (rest := [.ref q207, .int (4 : Int32), .ref q1]) hE dX11_init_115 (fun l => c_i0 l G q207 100) ggX11_init_X0_init (by decide +kernel) (by decide +kernel) (by decide +kernel) rfl rfl ⟨by decide, by decide, by decide +kernel⟩ ⟨rfl, rfl, by decide, by decide⟩ ⟨by decide, by decide⟩ rfl rfl (Nat.le_of_ble_eq_true rfl) (⟨e217, by decide⟩) (fun L214 F215 q216 => ?_)
  obtain ⟨B218, gB218, hB218⟩ := q216
  have g220 := g212.oC (k := 256) (by decide) gB218 g213
  have g219 := g212.call (k := 256) (by decide) gB218 hB218
  have e224 : jF L214 F215 q1 (.inl (G 4, 16, .inr (.inr (.inr (.inr (va_up (va_up (va_up (va_up (fun _ => none) 0 (some q119)) 1 (some q141)) 2 (some q163)) 3 (some q185))))))) := g219.at 0 (by decide)
  have e225 : jF L214 F215 q207 (.inr (0, [.ref (B218 0), .int 0])) := g219.at 256 (by decide)
  refine jr_astq (C := RX0) hE dX11_init_118 e224 e225 rfl rfl (vp_lit (by decide)) (fun F221 g222 u223 => ?_)
  have g226 := g219.set 0 (by decide) g222.2 u223
  have g227 := g219.oS 0 (by decide) u223 g220
  refine jr_iinc (v := (5 : Int32)) (lv' := [(1, .int (5 : Int32)), (0, .ref o)]) hE dX11_init_119 0 rfl (by decide) (by decide) rfl ?_
  refine jr_goto (tgt := 98) hE dX11_init_122 (by decide) ?_
  refine jr_iload_n hE dX11_init_98 0 rfl ?_
  refine jr_bipush (v := (16 : Int32)) hE dX11_init_99 (by decide) ?_
  refine jr_icmp_ge (tgt := 125) hE dX11_init_101 (by decide) (fun c228 => absurd c228 (by decide)) (fun c228 => ?_)
  refine jr_aload_n hE dX11_init_104 1 rfl ?_
  refine jr_get hE dX11_init_105 f11 g227 rfl ?_
  refine jr_iload_n hE dX11_init_108 0 rfl ?_
  refine jr_new (ci := 0) (fs := [.null, .int 0]) hE dX11_init_109 rfl (by decide +kernel) (by decide +kernel) (by decide +kernel) (by decide +kernel) dfX0 ⟨by decide, by decide⟩ (fun q229 F230 n231 g232 u233 => ?_)
  have g234 := g226.new n231 g232 u233
  have g235 := g227.nw n231 u233
  refine jr_dup hE dX11_init_112 rfl ?_
  refine jr_bipush (v := (100 : Int32)) hE dX11_init_113 (by decide) ?_
  have e239 : jF (L214 ++ [q229]) F230 q229 (.inr (0, [.null, .int 0])) := g234.at 258 (by decide)
  refine jr_callIv (n := 1) (As := [.int (100 : Int32)]) (rest := [.ref q229, .int (5 : Int32), .ref q1]) hE dX11_init_115 (fun l => c_i0 l G q229 100) ggX11_init_X0_init (by decide +kernel) (by decide +kernel) (by decide +kernel) rfl rfl ⟨by decide, by decide, by decide +kernel⟩ ⟨rfl, rfl, by decide, by decide⟩ ⟨by decide, by decide⟩ rfl rfl (Nat.le_of_ble_eq_true rfl) (⟨e239, by decide⟩) (fun L236 F237 q238 => ?_)
  obtain ⟨B240, gB240, hB240⟩ := q238
  have g242 := g234.oC (k := 258) (by decide) gB240 g235
  have g241 := g234.call (k := 258) (by decide) gB240 hB240
  have e246 : jF L236 F237 q1 (.inl (G 4, 16, .inr (.inr (.inr (.inr (va_up (va_up (va_up (va_up (va_up (fun _ => none) 0 (some q119)) 1 (some q141)) 2 (some q163)) 3 (some q185)) 4 (some q207))))))) := g241.at 0 (by decide)
  have e247 : jF L236 F237 q229 (.inr (0, [.ref (B240 0), .int 0])) := g241.at 258 (by decide)
  refine jr_astq (C := RX0) hE dX11_init_118 e246 e247 rfl rfl (vp_lit (by decide)) (fun F243 g244 u245 => ?_)
  have g248 := g241.set 0 (by decide) g244.2 u245
  have g249 := g241.oS 0 (by decide) u245 g242
  refine jr_iinc (v := (6 : Int32)) (lv' := [(1, .int (6 : Int32)), (0, .ref o)]) hE dX11_init_119 0 rfl (by decide) (by decide) rfl ?_
  refine jr_goto (tgt := 98) hE dX11_init_122 (by decide) ?_
  refine jr_iload_n hE dX11_init_98 0 rfl ?_
  refine jr_bipush (v := (16 : Int32)) hE dX11_init_99 (by decide) ?_
  refine jr_icmp_ge (tgt := 125) hE dX11_init_101 (by decide) (fun c250 => absurd c250 (by decide)) (fun c250 => ?_)
  refine jr_aload_n hE dX11_init_104 1 rfl ?_
  refine jr_get hE dX11_init_105 f11 g249 rfl ?_
  refine jr_iload_n hE dX11_init_108 0 rfl ?_
  refine jr_new (ci := 0) (fs := [.null, .int 0]) hE dX11_init_109 rfl (by decide +kernel) (by decide +kernel) (by decide +kernel) (by decide +kernel) dfX0 ⟨by decide, by decide⟩ (fun q251 F252 n253 g254 u255 => ?_)
  have g256 := g248.new n253 g254 u255
  have g257 := g249.nw n253 u255
  refine jr_dup hE dX11_init_112 rfl ?_
  refine jr_bipush (v := (100 : Int32)) hE dX11_init_113 (by decide) ?_
  have e261 : jF (L236 ++ [q251]) F252 q251 (.inr (0, [.null, .int 0])) := g256.at 260 (by decide)
  refine jr_callIv (n := 1) (As := [.int (100 : Int32)]) (rest := [.ref q251, .int (6 : Int32), .ref q1]) hE dX11_init_115 (fun l => c_i0 l G q251 100) ggX11_init_X0_init (by decide +kernel) (by decide +kernel) (by decide +kernel) rfl rfl ⟨by decide, by decide, by decide +kernel⟩ ⟨rfl, rfl, by decide, by decide⟩ ⟨by decide, by decide⟩ rfl rfl (Nat.le_of_ble_eq_true rfl) (⟨e261, by decide⟩) (fun L258 F259 q260 => ?_)
  obtain ⟨B262, gB262, hB262⟩ := q260
  have g264 := g256.oC (k := 260) (by decide) gB262 g257
  have g263 := g256.call (k := 260) (by decide) gB262 hB262
  have e268 : jF L258 F259 q1 (.inl (G 4, 16, .inr (.inr (.inr (.inr (va_up (va_up (va_up (va_up (va_up (va_up (fun _ => none) 0 (some q119)) 1 (some q141)) 2 (some q163)) 3 (some q185)) 4 (some q207)) 5 (some q229))))))) := g263.at 0 (by decide)
  have e269 : jF L258 F259 q251 (.inr (0, [.ref (B262 0), .int 0])) := g263.at 260 (by decide)
  refine jr_astq (C := RX0) hE dX11_init_118 e268 e269 rfl rfl (vp_lit (by decide)) (fun F265 g266 u267 => ?_)
  have g270 := g263.set 0 (by decide) g266.2 u267
  have g271 := g263.oS 0 (by decide) u267 g264
  refine jr_iinc (v := (7 : Int32)) (lv' := [(1, .int (7 : Int32)), (0, .ref o)]) hE dX11_init_119 0 rfl (by decide) (by decide) rfl ?_
  refine jr_goto (tgt := 98) hE dX11_init_122 (by decide) ?_
  refine jr_iload_n hE dX11_init_98 0 rfl ?_
  refine jr_bipush (v := (16 : Int32)) hE dX11_init_99 (by decide) ?_
  refine jr_icmp_ge (tgt := 125) hE dX11_init_101 (by decide) (fun c272 => absurd c272 (by decide)) (fun c272 => ?_)
  refine jr_aload_n hE dX11_init_104 1 rfl ?_
  refine jr_get hE dX11_init_105 f11 g271 rfl ?_
  refine jr_iload_n hE dX11_init_108 0 rfl ?_
  refine jr_new (ci := 0) (fs := [.null, .int 0]) hE dX11_init_109 rfl (by decide +kernel) (by decide +kernel) (by decide +kernel) (by decide +kernel) dfX0 ⟨by decide, by decide⟩ (fun q273 F274 n275 g276 u277 => ?_)
  have g278 := g270.new n275 g276 u277
  have g279 := g271.nw n275 u277
  refine jr_dup hE dX11_init_112 rfl ?_
  refine jr_bipush (v := (100 : Int32)) hE dX11_init_113 (by decide) ?_
  have e283 : jF (L258 ++ [q273]) F274 q273 (.inr (0, [.null, .int 0])) := g278.at 262 (by decide)
  refine jr_callIv (n := 1) (As := [.int (100 : Int32)]) (rest := [.ref q273, .int (7 : Int32), .ref q1]) hE dX11_init_115 (fun l => c_i0 l G q273 100) ggX11_init_X0_init (by decide +kernel) (by decide +kernel) (by decide +kernel) rfl rfl ⟨by decide, by decide, by decide +kernel⟩ ⟨rfl, rfl, by decide, by decide⟩ ⟨by decide, by decide⟩ rfl rfl (Nat.le_of_ble_eq_true rfl) (⟨e283, by decide⟩) (fun L280 F281 q282 => ?_)
  obtain ⟨B284, gB284, hB284⟩ := q282
  have g286 := g278.oC (k := 262) (by decide) gB284 g279
  have g285 := g278.call (k := 262) (by decide) gB284 hB284
  have e290 : jF L280 F281 q1 (.inl (G 4, 16, .inr (.inr (.inr (.inr (va_up (va_up (va_up (va_up (va_up (va_up (va_up (fun _ => none) 0 (some q119)) 1 (some q141)) 2 (some q163)) 3 (some q185)) 4 (some q207)) 5 (some q229)) 6 (some q251))))))) := g285.at 0 (by decide)
  have e291 : jF L280 F281 q273 (.inr (0, [.ref (B284 0), .int 0])) := g285.at 262 (by decide)
  refine jr_astq (C := RX0) hE dX11_init_118 e290 e291 rfl rfl (vp_lit (by decide)) (fun F287 g288 u289 => ?_)
  have g292 := g285.set 0 (by decide) g288.2 u289
  have g293 := g285.oS 0 (by decide) u289 g286
  refine jr_iinc (v := (8 : Int32)) (lv' := [(1, .int (8 : Int32)), (0, .ref o)]) hE dX11_init_119 0 rfl (by decide) (by decide) rfl ?_
  refine jr_goto (tgt := 98) hE dX11_init_122 (by decide) ?_
  refine jr_iload_n hE dX11_init_98 0 rfl ?_
  refine jr_bipush (v := (16 : Int32)) hE dX11_init_99 (by decide) ?_
  refine jr_icmp_ge (tgt := 125) hE dX11_init_101 (by decide) (fun c294 => absurd c294 (by decide)) (fun c294 => ?_)
  refine jr_aload_n hE dX11_init_104 1 rfl ?_
  refine jr_get hE dX11_init_105 f11 g293 rfl ?_
  refine jr_iload_n hE dX11_init_108 0 rfl ?_
  refine jr_new (ci := 0) (fs := [.null, .int 0]) hE dX11_init_109 rfl (by decide +kernel) (by decide +kernel) (by decide +kernel) (by decide +kernel) dfX0 ⟨by decide, by decide⟩ (fun q295 F296 n297 g298 u299 => ?_)
  have g300 := g292.new n297 g298 u299
  have g301 := g293.nw n297 u299
  refine jr_dup hE dX11_init_112 rfl ?_
  refine jr_bipush (v := (100 : Int32)) hE dX11_init_113 (by decide) ?_
  have e305 : jF (L280 ++ [q295]) F296 q295 (.inr (0, [.null, .int 0])) := g300.at 264 (by decide)
  refine jr_callIv (n := 1) (As := [.int (100 : Int32)]) (rest := [.ref q295, .int (8 : Int32), .ref q1]) hE dX11_init_115 (fun l => c_i0 l G q295 100) ggX11_init_X0_init (by decide +kernel) (by decide +kernel) (by decide +kernel) rfl rfl ⟨by decide, by decide, by decide +kernel⟩ ⟨rfl, rfl, by decide, by decide⟩ ⟨by decide, by decide⟩ rfl rfl (Nat.le_of_ble_eq_true rfl) (⟨e305, by decide⟩) (fun L302 F303 q304 => ?_)
  obtain ⟨B306, gB306, hB306⟩ := q304
  have g308 := g300.oC (k := 264) (by decide) gB306 g301
  have g307 := g300.call (k := 264) (by decide) gB306 hB306
  have e312 : jF L302 F303 q1 (.inl (G 4, 16, .inr (.inr (.inr (.inr (va_up (va_up (va_up (va_up (va_up (va_up (va_up (va_up (fun _ => none) 0 (some q119)) 1 (some q141)) 2 (some q163)) 3 (some q185)) 4 (some q207)) 5 (some q229)) 6 (some q251)) 7 (some q273))))))) := g307.at 0 (by decide)
  have e313 : jF L302 F303 q295 (.inr (0, [.ref (B306 0), .int 0])) := g307.at 264 (by decide)
  refine jr_astq (C := RX0) hE dX11_init_118 e312 e313 rfl rfl (vp_lit (by decide)) (fun F309 g310 u311 => ?_)
  have g314 := g307.set 0 (by decide) g310.2 u311
  have g315 := g307.oS 0 (by decide) u311 g308
  refine jr_iinc (v := (9 : Int32)) (lv' := [(1, .int (9 : Int32)), (0, .ref o)]) hE dX11_init_119 0 rfl (by decide) (by decide) rfl ?_
  refine jr_goto (tgt := 98) hE dX11_init_122 (by decide) ?_
  refine jr_iload_n hE dX11_init_98 0 rfl ?_
  refine jr_bipush (v := (16 : Int32)) hE dX11_init_99 (by decide) ?_
  refine jr_icmp_ge (tgt := 125) hE dX11_init_101 (by decide) (fun c316 => absurd c316 (by decide)) (fun c316 => ?_)
  refine jr_aload_n hE dX11_init_104 1 rfl ?_
  refine jr_get hE dX11_init_105 f11 g315 rfl ?_
  refine jr_iload_n hE dX11_init_108 0 rfl ?_
  refine jr_new (ci := 0) (fs := [.null, .int 0]) hE dX11_init_109 rfl (by decide +kernel) (by decide +kernel) (by decide +kernel) (by decide +kernel) dfX0 ⟨by decide, by decide⟩ (fun q317 F318 n319 g320 u321 => ?_)
  have g322 := g314.new n319 g320 u321
  have g323 := g315.nw n319 u321
  refine jr_dup hE dX11_init_112 rfl ?_
  refine jr_bipush (v := (100 : Int32)) hE dX11_init_113 (by decide) ?_
  have e327 : jF (L302 ++ [q317]) F318 q317 (.inr (0, [.null, .int 0])) := g322.at 266 (by decide)
  refine jr_callIv (n := 1) (As := [.int (100 : Int32)]) (rest := [.ref q317, .int (9 : Int32), .ref q1]) hE dX11_init_115 (fun l => c_i0 l G q317 100) ggX11_init_X0_init (by decide +kernel) (by decide +kernel) (by decide +kernel) rfl rfl ⟨by decide, by decide, by decide +kernel⟩ ⟨rfl, rfl, by decide, by decide⟩ ⟨by decide, by decide⟩ rfl rfl (Nat.le_of_ble_eq_true rfl) (⟨e327, by decide⟩) (fun L324 F325 q326 => ?_)
  obtain ⟨B328, gB328, hB328⟩ := q326
  have g330 := g322.oC (k := 266) (by decide) gB328 g323
  have g329 := g322.call (k := 266) (by decide) gB328 hB328
  have e334 : jF L324 F325 q1 (.inl (G 4, 16, .inr (.inr (.inr (.inr (va_up (va_up (va_up (va_up (va_up (va_up (va_up (va_up (va_up (fun _ => none) 0 (some q119)) 1 (some q141)) 2 (some q163)) 3 (some q185)) 4 (some q207)) 5 (some q229)) 6 (some q251)) 7 (some q273)) 8 (some q295))))))) := g329.at 0 (by decide)
  have e335 : jF L324 F325 q317 (.inr (0, [.ref (B328 0), .int 0])) := g329.at 266 (by decide)
  refine jr_astq (C := RX0) hE dX11_init_118 e334 e335 rfl rfl (vp_lit (by decide)) (fun F331 g332 u333 => ?_)
  have g336 := g329.set 0 (by decide) g332.2 u333
  have g337 := g329.oS 0 (by decide) u333 g330
  refine jr_iinc (v := (10 : Int32)) (lv' := [(1, .int (10 : Int32)), (0, .ref o)]) hE dX11_init_119 0 rfl (by decide) (by decide) rfl ?_
  refine jr_goto (tgt := 98) hE dX11_init_122 (by decide) ?_
  refine jr_iload_n hE dX11_init_98 0 rfl ?_
  refine jr_bipush (v := (16 : Int32)) hE dX11_init_99 (by decide) ?_
  refine jr_icmp_ge (tgt := 125) hE dX11_init_101 (by decide) (fun c338 => absurd c338 (by decide)) (fun c338 => ?_)
  refine jr_aload_n hE dX11_init_104 1 rfl ?_
  refine jr_get hE dX11_init_105 f11 g337 rfl ?_
  refine jr_iload_n hE dX11_init_108 0 rfl ?_
  refine jr_new (ci := 0) (fs := [.null, .int 0]) hE dX11_init_109 rfl (by decide +kernel) (by decide +kernel) (by decide +kernel) (by decide +kernel) dfX0 ⟨by decide, by decide⟩ (fun q339 F340 n341 g342 u343 => ?_)
  have g344 := g336.new n341 g342 u343
  have g345 := g337.nw n341 u343
  refine jr_dup hE dX11_init_112 rfl ?_
  refine jr_bipush (v := (100 : Int32)) hE dX11_init_113 (by decide) ?_
  have e349 : jF (L324 ++ [q339]) F340 q339 (.inr (0, [.null, .int 0])) := g344.at 268 (by decide)
  refine jr_callIv (n := 1) (As := [.int (100 : Int32)]) (rest := [.ref q339, .int (10 : Int32), .ref q1]) hE dX11_init_115 (fun l => c_i0 l G q339 100) ggX11_init_X0_init (by decide +kernel) (by decide +kernel) (by decide +kernel) rfl rfl ⟨by decide, by decide, by decide +kernel⟩ ⟨rfl, rfl, by decide, by decide⟩ ⟨by decide, by decide⟩ rfl rfl (Nat.le_of_ble_eq_true rfl) (⟨e349, by decide⟩) (fun L346 F347 q348 => ?_)
  obtain ⟨B350, gB350, hB350⟩ := q348
  have g352 := g344.oC (k := 268) (by decide) gB350 g345
  have g351 := g344.call (k := 268) (by decide) gB350 hB350
  have e356 : jF L346 F347 q1 (.inl (G 4, 16, .inr (.inr (.inr (.inr (va_up (va_up (va_up (va_up (va_up (va_up (va_up (va_up (va_up (va_up (fun _ => none) 0 (some q119)) 1 (some q141)) 2 (some q163)) 3 (some q185)) 4 (some q207)) 5 (some q229)) 6 (some q251)) 7 (some q273)) 8 (some q295)) 9 (some q317))))))) := g351.at 0 (by decide)
  have e357 : jF L346 F347 q339 (.inr (0, [.ref (B350 0), .int 0])) := g351.at 268 (by decide)
  refine jr_astq (C := RX0) hE dX11_init_118 e356 e357 rfl rfl (vp_lit (by decide)) (fun F353 g354 u355 => ?_)
  have g358 := g351.set 0 (by decide) g354.2 u355
  have g359 := g351.oS 0 (by decide) u355 g352
  refine jr_iinc (v := (11 : Int32)) (lv' := [(1, .int (11 : Int32)), (0, .ref o)]) hE dX11_init_119 0 rfl (by decide) (by decide) rfl ?_
  refine jr_goto (tgt := 98) hE dX11_init_122 (by decide) ?_
  refine jr_iload_n hE dX11_init_98 0 rfl ?_
  refine jr_bipush (v := (16 : Int32)) hE dX11_init_99 (by decide) ?_
  refine jr_icmp_ge (tgt := 125) hE dX11_init_101 (by decide) (fun c360 => absurd c360 (by decide)) (fun c360 => ?_)
  refine jr_aload_n hE dX11_init_104 1 rfl ?_
  refine jr_get hE dX11_init_105 f11 g359 rfl ?_
  refine jr_iload_n hE dX11_init_108 0 rfl ?_
  refine jr_new (ci := 0) (fs := [.null, .int 0]) hE dX11_init_109 rfl (by decide +kernel) (by decide +kernel) (by decide +kernel) (by decide +kernel) dfX0 ⟨by decide, by decide⟩ (fun q361 F362 n363 g364 u365 => ?_)
  have g366 := g358.new n363 g364 u365
  have g367 := g359.nw n363 u365
  refine jr_dup hE dX11_init_112 rfl ?_
  refine jr_bipush (v := (100 : Int32)) hE dX11_init_113 (by decide) ?_
  have e371 : jF (L346 ++ [q361]) F362 q361 (.inr (0, [.null, .int 0])) := g366.at 270 (by decide)
  refine jr_callIv (n := 1) (As := [.int (100 : Int32)]) (rest := [.ref q361, .int (11 : Int32), .ref q1]) hE dX11_init_115 (fun l => c_i0 l G q361 100) ggX11_init_X0_init (by decide +kernel) (by decide +kernel) (by decide +kernel) rfl rfl ⟨by decide, by decide, by decide +kernel⟩ ⟨rfl, rfl, by decide, by decide⟩ ⟨by decide, by decide⟩ rfl rfl (Nat.le_of_ble_eq_true rfl) (⟨e371, by decide⟩) (fun L368 F369 q370 => ?_)
  obtain ⟨B372, gB372, hB372⟩ := q370
  have g374 := g366.oC (k := 270) (by decide) gB372 g367
  have g373 := g366.call (k := 270) (by decide) gB372 hB372
  have e378 : jF L368 F369 q1 (.inl (G 4, 16, .inr (.inr (.inr (.inr (va_up (va_up (va_up (va_up (va_up (va_up (va_up (va_up (va_up (va_up (va_up (fun _ => none) 0 (some q119)) 1 (some q141)) 2 (some q163)) 3 (some q185)) 4 (some q207)) 5 (some q229)) 6 (some q251)) 7 (some q273)) 8 (some q295)) 9 (some q317)) 10 (some q339))))))) := g373.at 0 (by decide)
  have e379 : jF L368 F369 q361 (.inr (0, [.ref (B372 0), .int 0])) := g373.at 270 (by decide)
  refine jr_astq (C := RX0) hE dX11_init_118 e378 e379 rfl rfl (vp_lit (by decide)) (fun F375 g376 u377 => ?_)
  have g380 := g373.set 0 (by decide) g376.2 u377
  have g381 := g373.oS 0 (by decide) u377 g374
  refine jr_iinc (v := (12 : Int32)) (lv' := [(1, .int (12 : Int32)), (0, .ref o)]) hE dX11_init_119 0 rfl (by decide) (by decide) rfl ?_
  refine jr_goto (tgt := 98) hE dX11_init_122 (by decide) ?_
  refine jr_iload_n hE dX11_init_98 0 rfl ?_
  refine jr_bipush (v := (16 : Int32)) hE dX11_init_99 (by decide) ?_
  refine jr_icmp_ge (tgt := 125) hE dX11_init_101 (by decide) (fun c382 => absurd c382 (by decide)) (fun c382 => ?_)
  refine jr_aload_n hE dX11_init_104 1 rfl ?_
  refine jr_get hE dX11_init_105 f11 g381 rfl ?_
  refine jr_iload_n hE dX11_init_108 0 rfl ?_
  refine jr_new (ci := 0) (fs := [.null, .int 0]) hE dX11_init_109 rfl (by decide +kernel) (by decide +kernel) (by decide +kernel) (by decide +kernel) dfX0 ⟨by decide, by decide⟩ (fun q383 F384 n385 g386 u387 => ?_)
  have g388 := g380.new n385 g386 u387
  have g389 := g381.nw n385 u387
  refine jr_dup hE dX11_init_112 rfl ?_
  refine jr_bipush (v := (100 : Int32)) hE dX11_init_113 (by decide) ?_
  have e393 : jF (L368 ++ [q383]) F384 q383 (.inr (0, [.null, .int 0])) := g388.at 272 (by decide)
  refine jr_callIv (n := 1) (As := [.int (100 : Int32)]) (rest := [.ref q383, .int (12 : Int32), .ref q1]) hE dX11_init_115 (fun l => c_i0 l G q383 100) ggX11_init_X0_init (by decide +kernel) (by decide +kernel) (by decide +kernel) rfl rfl ⟨by decide, by decide, by decide +kernel⟩ ⟨rfl, rfl, by decide, by decide⟩ ⟨by decide, by decide⟩ rfl rfl (Nat.le_of_ble_eq_true rfl) (⟨e393, by decide⟩) (fun L390 F391 q392 => ?_)
  obtain ⟨B394, gB394, hB394⟩ := q392
  have g396 := g388.oC (k := 272) (by decide) gB394 g389
  have g395 := g388.call (k := 272) (by decide) gB394 hB394
  have e400 : jF L390 F391 q1 (.inl (G 4, 16, .inr (.inr (.inr (.inr (va_up (va_up (va_up (va_up (va_up (va_up (va_up (va_up (va_up (va_up (va_up (va_up (fun _ => none) 0 (some q119)) 1 (some q141)) 2 (some q163)) 3 (some q185)) 4 (some q207)) 5 (some q229)) 6 (some q251)) 7 (some q273)) 8 (some q295)) 9 (some q317)) 10 (some q339)) 11 (some q361))))))) := g395.at 0 (by decide)
  have e401 : jF L390 F391 q383 (.inr (0, [.ref (B394 0), .int 0])) := g395.at 272 (by decide)
  refine jr_astq (C := RX0) hE dX11_init_118 e400 e401 rfl rfl (vp_lit (by decide)) (fun F397 g398 u399 => ?_)
  have g402 := g395.set 0 (by decide) g398.2 u399
  have g403 := g395.oS 0 (by decide) u399 g396
  refine jr_iinc (v := (13 : Int32)) (lv' := [(1, .int (13 : Int32)), (0, .ref o)]) hE dX11_init_119 0 rfl (by decide) (by decide) rfl ?_
  refine jr_goto (tgt := 98) hE dX11_init_122 (by decide) ?_
  refine jr_iload_n hE dX11_init_98 0 rfl ?_
  refine jr_bipush (v := (16 : Int32)) hE dX11_init_99 (by decide) ?_
  refine jr_icmp_ge (tgt := 125) hE dX11_init_101 (by decide) (fun c404 => absurd c404 (by decide)) (fun c404 => ?_)
  refine jr_aload_n hE dX11_init_104 1 rfl ?_
  refine jr_get hE dX11_init_105 f11 g403 rfl ?_
  refine jr_iload_n hE dX11_init_108 0 rfl ?_
  refine jr_new (ci := 0) (fs := [.null, .int 0]) hE dX11_init_109 rfl (by decide +kernel) (by decide +kernel) (by decide +kernel) (by decide +kernel) dfX0 ⟨by decide, by decide⟩ (fun q405 F406 n407 g408 u409 => ?_)
  have g410 := g402.new n407 g408 u409
  have g411 := g403.nw n407 u409
  refine jr_dup hE dX11_init_112 rfl ?_
  refine jr_bipush (v := (100 : Int32)) hE dX11_init_113 (by decide) ?_
  have e415 : jF (L390 ++ [q405]) F406 q405 (.inr (0, [.null, .int 0])) := g410.at 274 (by decide)
  refine jr_callIv (n := 1) (As := [.int (100 : Int32)]) (rest := [.ref q405, .int (13 : Int32), .ref q1]) hE dX11_init_115 (fun l => c_i0 l G q405 100) ggX11_init_X0_init (by decide +kernel) (by decide +kernel) (by decide +kernel) rfl rfl ⟨by decide, by decide, by decide +kernel⟩ ⟨rfl, rfl, by decide, by decide⟩ ⟨by decide, by decide⟩ rfl rfl (Nat.le_of_ble_eq_true rfl) (⟨e415, by decide⟩) (fun L412 F413 q414 => ?_)
  obtain ⟨B416, gB416, hB416⟩ := q414
  have g418 := g410.oC (k := 274) (by decide) gB416 g411
  have g417 := g410.call (k := 274) (by decide) gB416 hB416
  have e422 : jF L412 F413 q1 (.inl (G 4, 16, .inr (.inr (.inr (.inr (va_up (va_up (va_up (va_up (va_up (va_up (va_up (va_up (va_up (va_up (va_up (va_up (va_up (fun _ => none) 0 (some q119)) 1 (some q141)) 2 (some q163)) 3 (some q185)) 4 (some q207)) 5 (some q229)) 6 (some q251)) 7 (some q273)) 8 (some q295)) 9 (some q317)) 10 (some q339)) 11 (some q361)) 12 (some q383))))))) := g417.at 0 (by decide)
  have e423 : jF L412 F413 q405 (.inr (0, [.ref (B416 0), .int 0])) := g417.at 274 (by decide)
  refine jr_astq (C := RX0) hE dX11_init_118 e422 e423 rfl rfl (vp_lit (by decide)) (fun F419 g420 u421 => ?_)
  have g424 := g417.set 0 (by decide) g420.2 u421
  have g425 := g417.oS 0 (by decide) u421 g418
  refine jr_iinc (v := (14 : Int32)) (lv' := [(1, .int (14 : Int32)), (0, .ref o)]) hE dX11_init_119 0 rfl (by decide) (by decide) rfl ?_
  refine jr_goto (tgt := 98) hE dX11_init_122 (by decide) ?_
  refine jr_iload_n hE dX11_init_98 0 rfl ?_
  refine jr_bipush (v := (16 : Int32)) hE dX11_init_99 (by decide) ?_
  refine jr_icmp_ge (tgt := 125) hE dX11_init_101 (by decide) (fun c426 => absurd c426 (by decide)) (fun c426 => ?_)
  refine jr_aload_n hE dX11_init_104 1 rfl ?_
  refine jr_get hE dX11_init_105 f11 g425 rfl ?_
  refine jr_iload_n hE dX11_init_108 0 rfl ?_
  refine jr_new (ci := 0) (fs := [.null, .int 0]) hE dX11_init_109 rfl (by decide +kernel) (by decide +kernel) (by decide +kernel) (by decide +kernel) dfX0 ⟨by decide, by decide⟩ (fun q427 F428 n429 g430 u431 => ?_)
  have g432 := g424.new n429 g430 u431
  have g433 := g425.nw n429 u431
  refine jr_dup hE dX11_init_112 rfl ?_
  refine jr_bipush (v := (100 : Int32)) hE dX11_init_113 (by decide) ?_
  have e437 : jF (L412 ++ [q427]) F428 q427 (.inr (0, [.null, .int 0])) := g432.at 276 (by decide)
  refine jr_callIv (n := 1) (As := [.int (100 : Int32)]) (rest := [.ref q427, .int (14 : Int32), .ref q1]) hE dX11_init_115 (fun l => c_i0 l G q427 100) ggX11_init_X0_init (by decide +kernel) (by decide +kernel) (by decide +kernel) rfl rfl ⟨by decide, by decide, by decide +kernel⟩ ⟨rfl, rfl, by decide, by decide⟩ ⟨by decide, by decide⟩ rfl rfl (Nat.le_of_ble_eq_true rfl) (⟨e437, by decide⟩) (fun L434 F435 q436 => ?_)
  obtain ⟨B438, gB438, hB438⟩ := q436
  have g440 := g432.oC (k := 276) (by decide) gB438 g433
  have g439 := g432.call (k := 276) (by decide) gB438 hB438
  have e444 : jF L434 F435 q1 (.inl (G 4, 16, .inr (.inr (.inr (.inr (va_up (va_up (va_up (va_up (va_up (va_up (va_up (va_up (va_up (va_up (va_up (va_up (va_up (va_up (fun _ => none) 0 (some q119)) 1 (some q141)) 2 (some q163)) 3 (some q185)) 4 (some q207)) 5 (some q229)) 6 (some q251)) 7 (some q273)) 8 (some q295)) 9 (some q317)) 10 (some q339)) 11 (some q361)) 12 (some q383)) 13 (some q405))))))) := g439.at 0 (by decide)
  have e445 : jF L434 F435 q427 (.inr (0, [.ref (B438 0), .int 0])) := g439.at 276 (by decide)
  refine jr_astq (C := RX0) hE dX11_init_118 e444 e445 rfl rfl (vp_lit (by decide)) (fun F441 g442 u443 => ?_)
  have g446 := g439.set 0 (by decide) g442.2 u443
  have g447 := g439.oS 0 (by decide) u443 g440
  refine jr_iinc (v := (15 : Int32)) (lv' := [(1, .int (15 : Int32)), (0, .ref o)]) hE dX11_init_119 0 rfl (by decide) (by decide) rfl ?_
  refine jr_goto (tgt := 98) hE dX11_init_122 (by decide) ?_
  refine jr_iload_n hE dX11_init_98 0 rfl ?_
  refine jr_bipush (v := (16 : Int32)) hE dX11_init_99 (by decide) ?_
  refine jr_icmp_ge (tgt := 125) hE dX11_init_101 (by decide) (fun c448 => absurd c448 (by decide)) (fun c448 => ?_)
  refine jr_aload_n hE dX11_init_104 1 rfl ?_
  refine jr_get hE dX11_init_105 f11 g447 rfl ?_
  refine jr_iload_n hE dX11_init_108 0 rfl ?_
  refine jr_new (ci := 0) (fs := [.null, .int 0]) hE dX11_init_109 rfl (by decide +kernel) (by decide +kernel) (by decide +kernel) (by decide +kernel) dfX0 ⟨by decide, by decide⟩ (fun q449 F450 n451 g452 u453 => ?_)
  have g454 := g446.new n451 g452 u453
  have g455 := g447.nw n451 u453
  refine jr_dup hE dX11_init_112 rfl ?_
  refine jr_bipush (v := (100 : Int32)) hE dX11_init_113 (by decide) ?_
  have e459 : jF (L434 ++ [q449]) F450 q449 (.inr (0, [.null, .int 0])) := g454.at 278 (by decide)
  refine jr_callIv (n := 1) (As := [.int (100 : Int32)]) (rest := [.ref q449, .int (15 : Int32), .ref q1]) hE dX11_init_115 (fun l => c_i0 l G q449 100) ggX11_init_X0_init (by decide +kernel) (by decide +kernel) (by decide +kernel) rfl rfl ⟨by decide, by decide, by decide +kernel⟩ ⟨rfl, rfl, by decide, by decide⟩ ⟨by decide, by decide⟩ rfl rfl (Nat.le_of_ble_eq_true rfl) (⟨e459, by decide⟩) (fun L456 F457 q458 => ?_)
  obtain ⟨B460, gB460, hB460⟩ := q458
  have g462 := g454.oC (k := 278) (by decide) gB460 g455
  have g461 := g454.call (k := 278) (by decide) gB460 hB460
  have e466 : jF L456 F457 q1 (.inl (G 4, 16, .inr (.inr (.inr (.inr (va_up (va_up (va_up (va_up (va_up (va_up (va_up (va_up (va_up (va_up (va_up (va_up (va_up (va_up (va_up (fun _ => none) 0 (some q119)) 1 (some q141)) 2 (some q163)) 3 (some q185)) 4 (some q207)) 5 (some q229)) 6 (some q251)) 7 (some q273)) 8 (some q295)) 9 (some q317)) 10 (some q339)) 11 (some q361)) 12 (some q383)) 13 (some q405)) 14 (some q427))))))) := g461.at 0 (by decide)
  have e467 : jF L456 F457 q449 (.inr (0, [.ref (B460 0), .int 0])) := g461.at 278 (by decide)
  refine jr_astq (C := RX0) hE dX11_init_118 e466 e467 rfl rfl (vp_lit (by decide)) (fun F463 g464 u465 => ?_)
  have g468 := g461.set 0 (by decide) g464.2 u465
  have g469 := g461.oS 0 (by decide) u465 g462
  refine jr_iinc (v := (16 : Int32)) (lv' := [(1, .int (16 : Int32)), (0, .ref o)]) hE dX11_init_119 0 rfl (by decide) (by decide) rfl ?_
  refine jr_goto (tgt := 98) hE dX11_init_122 (by decide) ?_
  refine jr_iload_n hE dX11_init_98 0 rfl ?_
  refine jr_bipush (v := (16 : Int32)) hE dX11_init_99 (by decide) ?_
  refine jr_icmp_ge (tgt := 125) hE dX11_init_101 (by decide) (fun c470 => ?_) (fun c470 => absurd (by decide) c470)
  refine jr_iconst (v := (0 : Int32)) hE dX11_init_125 (by decide) ?_
  refine jr_istore_n (lv' := [(1, .int (0 : Int32)), (0, .ref o)]) hE dX11_init_126 (by decide) rfl ?_
  refine jr_iload_n hE dX11_init_127 0 rfl ?_
  refine jr_iconst (v := (4 : Int32)) hE dX11_init_128 (by decide) ?_
  refine jr_icmp_ge (tgt := 151) hE dX11_init_129 (by decide) (fun c471 => absurd c471 (by decide)) (fun c471 => ?_)
  refine jr_aload_n hE dX11_init_132 1 rfl ?_
  refine jr_get hE dX11_init_133 f52 g469 rfl ?_
  refine jr_iload_n hE dX11_init_136 0 rfl ?_
  refine jr_new (ci := 3) (fs := [.null, .null, .null, .null, .null, .null, .null]) hE dX11_init_137 rfl (by decide +kernel) (by decide +kernel) (by decide +kernel) (by decide +kernel) dfX3 ⟨by decide, by decide⟩ (fun q472 F473 n474 g475 u476 => ?_)
  have g477 := g468.new n474 g475 u476
  have g478 := g469.nw n474 u476
  refine jr_dup hE dX11_init_140 rfl ?_
  have e482 : jF (L456 ++ [q472]) F473 q472 (.inr (3, [.null, .null, .null, .null, .null, .null, .null])) := g477.at 280 (by decide)
  refine jr_callNv (n := 0) (As := []) (rest := [.ref q472, .int (0 : Int32), .ref q99]) hE dX11_init_141 (fun l => c_i3 l G q472) ggX11_init_X3_init (by decide +kernel) (by decide) (by decide +kernel) rfl rfl ⟨by decide, by decide, by decide +kernel⟩ ⟨rfl, rfl, by decide, by decide⟩ ⟨by decide, by decide⟩ rfl rfl (Nat.le_of_ble_eq_true rfl) (e482) (fun L479 F480 q481 => ?_)
  obtain ⟨B483, gB483, hB483⟩ := q481
  have g485 := g477.oC (k := 280) (by decide) gB483 g478
  have g484 := g477.call (k := 280) (by decide) gB483 hB483
  have e489 : jF L479 F480 q99 (.inl (G 5, 4, .inr (.inr (.inr (.inr (fun _ => none)))))) := g484.at 247 (by decide)
  have e490 : jF L479 F480 q472 (.inr (3, [.ref (B483 0), .ref (B483 2), .ref (B483 4), .ref (B483 6), .ref (B483 8), .ref (B483 10), .ref (B483 14)])) := g484.at 280 (by decide)
  refine jr_astq (C := RX3) hE dX11_init_144 e489 e490 rfl rfl (vp_lit (by decide)) (fun F486 g487 u488 => ?_)
  have g491 := g484.set 247 (by decide) g487.2 u488
  have g492 := g484.oS 247 (by decide) u488 g485
  refine jr_iinc (v := (1 : Int32)) (lv' := [(1, .int (1 : Int32)), (0, .ref o)]) hE dX11_init_145 0 rfl (by decide) (by decide) rfl ?_
  refine jr_goto (tgt := 127) hE dX11_init_148 (by decide) ?_
  refine jr_iload_n hE dX11_init_127 0 rfl ?_
  refine jr_iconst (v := (4 : Int32)) hE dX11_init_128 (by decide) ?_
  refine jr_icmp_ge (tgt := 151) hE dX11_init_129 (by decide) (fun c493 => absurd c493 (by decide)) (fun c493 => ?_)
  refine jr_aload_n hE dX11_init_132 1 rfl ?_
  refine jr_get hE dX11_init_133 f52 g492 rfl ?_
  refine jr_iload_n hE dX11_init_136 0 rfl ?_
  refine jr_new (ci := 3) (fs := [.null, .null, .null, .null, .null, .null, .null]) hE dX11_init_137 rfl (by decide +kernel) (by decide +kernel) (by decide +kernel) (by decide +kernel) dfX3 ⟨by decide, by decide⟩ (fun q494 F495 n496 g497 u498 => ?_)
  have g499 := g491.new n496 g497 u498
  have g500 := g492.nw n496 u498
  refine jr_dup hE dX11_init_140 rfl ?_
  have e504 : jF (L479 ++ [q494]) F495 q494 (.inr (3, [.null, .null, .null, .null, .null, .null, .null])) := g499.at 299 (by decide)
  refine jr_callNv (n := 0) (As := []) (rest := [.ref q494, .int (1 : Int32), .ref q99]) hE dX11_init_141 (fun l => c_i3 l G q494) ggX11_init_X3_init (by decide +kernel) (by decide) (by decide +kernel) rfl rfl ⟨by decide, by decide, by decide +kernel⟩ ⟨rfl, rfl, by decide, by decide⟩ ⟨by decide, by decide⟩ rfl rfl (Nat.le_of_ble_eq_true rfl) (e504) (fun L501 F502 q503 => ?_)
  obtain ⟨B505, gB505, hB505⟩ := q503
  have g507 := g499.oC (k := 299) (by decide) gB505 g500
  have g506 := g499.call (k := 299) (by decide) gB505 hB505
  have e511 : jF L501 F502 q99 (.inl (G 5, 4, .inr (.inr (.inr (.inr (va_up (fun _ => none) 0 (some q472))))))) := g506.at 247 (by decide)
  have e512 : jF L501 F502 q494 (.inr (3, [.ref (B505 0), .ref (B505 2), .ref (B505 4), .ref (B505 6), .ref (B505 8), .ref (B505 10), .ref (B505 14)])) := g506.at 299 (by decide)
  refine jr_astq (C := RX3) hE dX11_init_144 e511 e512 rfl rfl (vp_lit (by decide)) (fun F508 g509 u510 => ?_)
  have g513 := g506.set 247 (by decide) g509.2 u510
  have g514 := g506.oS 247 (by decide) u510 g507
  refine jr_iinc (v := (2 : Int32)) (lv' := [(1, .int (2 : Int32)), (0, .ref o)]) hE dX11_init_145 0 rfl (by decide) (by decide) rfl ?_
  refine jr_goto (tgt := 127) hE dX11_init_148 (by decide) ?_
  refine jr_iload_n hE dX11_init_127 0 rfl ?_
  refine jr_iconst (v := (4 : Int32)) hE dX11_init_128 (by decide) ?_
  refine jr_icmp_ge (tgt := 151) hE dX11_init_129 (by decide) (fun c515 => absurd c515 (by decide)) (fun c515 => ?_)
  refine jr_aload_n hE dX11_init_132 1 rfl ?_
  refine jr_get hE dX11_init_133 f52 g514 rfl ?_
  refine jr_iload_n hE dX11_init_136 0 rfl ?_
  refine jr_new (ci := 3) (fs := [.null, .null, .null, .null, .null, .null, .null]) hE dX11_init_137 rfl (by decide +kernel) (by decide +kernel) (by decide +kernel) (by decide +kernel) dfX3 ⟨by decide, by decide⟩ (fun q516 F517 n518 g519 u520 => ?_)
  have g521 := g513.new n518 g519 u520
  have g522 := g514.nw n518 u520
  refine jr_dup hE dX11_init_140 rfl ?_
  have e526 : jF (L501 ++ [q516]) F517 q516 (.inr (3, [.null, .null, .null, .null, .null, .null, .null])) := g521.at 318 (by decide)
  refine jr_callNv (n := 0) (As := []) (rest := [.ref q516, .int (2 : Int32), .ref q99]) hE dX11_init_141 (fun l => c_i3 l G q516) ggX11_init_X3_init (by decide +kernel) (by decide) (by decide +kernel) rfl rfl ⟨by decide, by decide, by decide +kernel⟩ ⟨rfl, rfl, by decide, by decide⟩ ⟨by decide, by decide⟩ rfl rfl (Nat.le_of_ble_eq_true rfl) (e526) (fun L523 F524 q525 => ?_)
  obtain ⟨B527, gB527, hB527⟩ := q525
  have g529 := g521.oC (k := 318) (by decide) gB527 g522
  have g528 := g521.call (k := 318) (by decide) gB527 hB527
  have e533 : jF L523 F524 q99 (.inl (G 5, 4, .inr (.inr (.inr (.inr (va_up (va_up (fun _ => none) 0 (some q472)) 1 (some q494))))))) := g528.at 247 (by decide)
  have e534 : jF L523 F524 q516 (.inr (3, [.ref (B527 0), .ref (B527 2), .ref (B527 4), .ref (B527 6), .ref (B527 8), .ref (B527 10), .ref (B527 14)])) := g528.at 318 (by decide)
  refine jr_astq (C := RX3) hE dX11_init_144 e533 e534 rfl rfl (vp_lit (by decide)) (fun F530 g531 u532 => ?_)
  have g535 := g528.set 247 (by decide) g531.2 u532
  have g536 := g528.oS 247 (by decide) u532 g529
  refine jr_iinc (v := (3 : Int32)) (lv' := [(1, .int (3 : Int32)), (0, .ref o)]) hE dX11_init_145 0 rfl (by decide) (by decide) rfl ?_
  refine jr_goto (tgt := 127) hE dX11_init_148 (by decide) ?_
  refine jr_iload_n hE dX11_init_127 0 rfl ?_
  refine jr_iconst (v := (4 : Int32)) hE dX11_init_128 (by decide) ?_
  refine jr_icmp_ge (tgt := 151) hE dX11_init_129 (by decide) (fun c537 => absurd c537 (by decide)) (fun c537 => ?_)
  refine jr_aload_n hE dX11_init_132 1 rfl ?_
  refine jr_get hE dX11_init_133 f52 g536 rfl ?_
  refine jr_iload_n hE dX11_init_136 0 rfl ?_
  refine jr_new (ci := 3) (fs := [.null, .null, .null, .null, .null, .null, .null]) hE dX11_init_137 rfl (by decide +kernel) (by decide +kernel) (by decide +kernel) (by decide +kernel) dfX3 ⟨by decide, by decide⟩ (fun q538 F539 n540 g541 u542 => ?_)
  have g543 := g535.new n540 g541 u542
  have g544 := g536.nw n540 u542
  refine jr_dup hE dX11_init_140 rfl ?_
  have e548 : jF (L523 ++ [q538]) F539 q538 (.inr (3, [.null, .null, .null, .null, .null, .null, .null])) := g543.at 337 (by decide)
  refine jr_callNv (n := 0) (As := []) (rest := [.ref q538, .int (3 : Int32), .ref q99]) hE dX11_init_141 (fun l => c_i3 l G q538) ggX11_init_X3_init (by decide +kernel) (by decide) (by decide +kernel) rfl rfl ⟨by decide, by decide, by decide +kernel⟩ ⟨rfl, rfl, by decide, by decide⟩ ⟨by decide, by decide⟩ rfl rfl (Nat.le_of_ble_eq_true rfl) (e548) (fun L545 F546 q547 => ?_)
  obtain ⟨B549, gB549, hB549⟩ := q547
  have g551 := g543.oC (k := 337) (by decide) gB549 g544
  have g550 := g543.call (k := 337) (by decide) gB549 hB549
  have e555 : jF L545 F546 q99 (.inl (G 5, 4, .inr (.inr (.inr (.inr (va_up (va_up (va_up (fun _ => none) 0 (some q472)) 1 (some q494)) 2 (some q516))))))) := g550.at 247 (by decide)
  have e556 : jF L545 F546 q538 (.inr (3, [.ref (B549 0), .ref (B549 2), .ref (B549 4), .ref (B549 6), .ref (B549 8), .ref (B549 10), .ref (B549 14)])) := g550.at 337 (by decide)
  refine jr_astq (C := RX3) hE dX11_init_144 e555 e556 rfl rfl (vp_lit (by decide)) (fun F552 g553 u554 => ?_)
  have g557 := g550.set 247 (by decide) g553.2 u554
  have g558 := g550.oS 247 (by decide) u554 g551
  refine jr_iinc (v := (4 : Int32)) (lv' := [(1, .int (4 : Int32)), (0, .ref o)]) hE dX11_init_145 0 rfl (by decide) (by decide) rfl ?_
  refine jr_goto (tgt := 127) hE dX11_init_148 (by decide) ?_
  refine jr_iload_n hE dX11_init_127 0 rfl ?_
  refine jr_iconst (v := (4 : Int32)) hE dX11_init_128 (by decide) ?_
  refine jr_icmp_ge (tgt := 151) hE dX11_init_129 (by decide) (fun c559 => ?_) (fun c559 => absurd (by decide) c559)
  exact hR L545 F552 _ _ dX11_init_151 ⟨_, lzB66, g557.fin (fls (fls (fls (fls (fls (fls (fls (fls (fls (fls (fls (fls (fls (fls (fls (fls (fls (fls (fls (fls (fls (fls (fls (fls (fls (fls (fls (fls (fls (fls (fls (fls (fls (fls (fls (fls (fls (fls (fls (fls (fls (fls (fls (fls (fls (fls (fls (fls (fls (fls (fls (fls (fls (fls (fls (fls (fls (fls (fls (fls (fls (fls (fls (fls (fls (fls (fls (fls (fls (fls (fls (fls (fls (fls (fls (fls (fls (fls (fls (fls (fls (fls (fls (fls (fls (fls (fls (fls (fls (fls (fls (fls (fls (fls (fls (fls (fls (fls (fls (fls (fls (fls (fls (fls (fls (fls (fls (fls (fls (fls (fls (fls (fls (fls (fls (fls (fls (fls (fls (fls (fls (fls (fls (fls (fls (fls (fls (fls (fls (fls (fls (fls (fls (fls (fls (fls (fls (fls (fls (fls (fls (fls (fls (fls (fls (fls (fls (fls (fls (fls (fls (fls (fls (fls (fls (fls (fls (fls (fls (fls (fls (fls (fls (fls (fls (fls (fls (fls (fls (fls (fls (fls (fls (fls (fls (fls (fls (fls (fls (fls (fls (fls (fls (fls (fls (fls (fls (fls (fls (fls (fls (fls (fls (fls (fls (fls (fls (fls (fls (fls (fls (fls (fls (fls (fls (fls (fls (fls (fls (fls (fls (fls (fls (fls (fls (fls (fls (fls (fls (fls (fls (fls (fls (fls (fls (fls (fls (fls (fls (fls (fls (fls (fls (fls (fls (fls (fls (fls (fls (fls (fls (fls (fls (fls (fls (fls (fls (fls (fls (fls (fls (fls (fls (fls (fls (fls (fls (fls (fls (fls (fls (fls (fls (fls (fls (fls (fls (fls (fls (fls (fls (fls (fls (fls (fls (fls (fls (fls (fls (fls (fls (fls (fls (fls (fls (fls (fls (fls (fls (fls (fls (fls (fls (fls (fls (fls (fls (fls (fls (fls (fls (fls (fls (fls (fls (fls (fls (fls (fls (fls (fls (fls (fls (fls (fls (fls (fls (fls (fls (fls (fls (fls (fls (fls (fls (fls (fls (fls (fls (fls (fls (fls (fls (fls (fls (fls (fls (fls (fls (fls (fls (fls (fls (fls (fls (fls (fls (fls (fls (fls (fls (fls (fls (fls (fls (fls fls0 rfl) rfl) rfl) rfl) rfl) rfl) rfl) rfl) rfl) rfl) rfl) rfl) rfl) rfl) rfl) rfl) rfl) rfl) rfl) rfl) rfl) rfl) rfl) rfl) rfl) rfl) rfl) rfl) rfl) rfl) rfl) rfl) rfl) rfl) rfl) rfl) rfl) rfl) rfl) rfl) rfl) rfl) rfl) rfl) rfl) rfl) rfl) rfl) rfl) rfl) rfl) rfl) rfl) rfl) rfl) rfl) rfl) rfl) rfl) rfl) rfl) rfl) rfl) rfl) rfl) rfl) rfl) rfl) rfl) rfl) rfl) rfl) rfl) rfl) rfl) rfl) rfl) rfl) rfl) rfl) rfl) rfl) rfl) rfl) rfl) rfl) rfl) rfl) rfl) rfl) rfl) rfl) rfl) rfl) rfl) rfl) rfl) rfl) rfl) rfl) rfl) rfl) rfl) rfl) rfl) rfl) rfl) rfl) rfl) rfl) rfl) rfl) rfl) rfl) rfl) rfl) rfl) rfl) rfl) rfl) rfl) rfl) rfl) rfl) rfl) rfl) rfl) rfl) rfl) rfl) rfl) rfl) rfl) rfl) rfl) rfl) rfl) rfl) rfl) rfl) rfl) rfl) rfl) rfl) rfl) rfl) rfl) rfl) rfl) rfl) rfl) rfl) rfl) rfl) rfl) rfl) rfl) rfl) rfl) rfl) rfl) rfl) rfl) rfl) rfl) rfl) rfl) rfl) rfl) rfl) rfl) rfl) rfl) rfl) rfl) rfl) rfl) rfl) rfl) rfl) rfl) rfl) rfl) rfl) rfl) rfl) rfl) rfl) rfl) rfl) rfl) rfl) rfl) rfl) rfl) rfl) rfl) rfl) rfl) rfl) rfl) rfl) rfl) rfl) rfl) rfl) rfl) rfl) rfl) rfl) rfl) rfl) rfl) rfl) rfl) rfl) rfl) rfl) rfl) rfl) rfl) rfl) rfl) rfl) rfl) rfl) rfl) rfl) rfl) rfl) rfl) rfl) rfl) rfl) rfl) rfl) rfl) rfl) rfl) rfl) rfl) rfl) rfl) rfl) rfl) rfl) rfl) rfl) rfl) rfl) rfl) rfl) rfl) rfl) rfl) rfl) rfl) rfl) rfl) rfl) rfl) rfl) rfl) rfl) rfl) rfl) rfl) rfl) rfl) rfl) rfl) rfl) rfl) rfl) rfl) rfl) rfl) rfl) rfl) rfl) rfl) rfl) rfl) rfl) rfl) rfl) rfl) rfl) rfl) rfl) rfl) rfl) rfl) rfl) rfl) rfl) rfl) rfl) rfl) rfl) rfl) rfl) rfl) rfl) rfl) rfl) rfl) rfl) rfl) rfl) rfl) rfl) rfl) rfl) rfl) rfl) rfl) rfl) rfl) rfl) rfl) rfl) rfl) rfl) rfl) rfl) rfl) rfl) rfl) rfl) rfl) rfl) rfl) rfl) rfl) rfl) rfl) rfl) rfl) rfl) rfl) rfl) rfl) rfl) rfl) rfl) rfl) rfl) rfl) rfl) rfl) rfl) rfl) rfl) rfl) rfl), g558.2, hzB66⟩

