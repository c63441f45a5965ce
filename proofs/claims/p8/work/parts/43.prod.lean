theorem prod_up {p18 p27 p36 p45 p54 p63 p72 p81 v1 v2 z1 p28 p37 p46 p55 p64 p73 p82 v3 v4 z2 p38 p47 p56 p65 p74 p83 v5 v6 z3 p48 p57 p66 p75 p84 v7 v8 z4 p58 p67 p76 p85 v9 v10 z5 p68 p77 p86 v11 v12 z6 p78 p87 v13 v14 z7 p88 v15 v16 z8 v17 : Int} (h0 : v1 = ((((((((p18) + (p27)) + (p36)) + (p45)) + (p54)) + (p63)) + (p72)) + (p81))) (h1 : v2 = (v1 % 536870912)) (h2 : z1 = (v1 / 536870912)) (h3 : v3 = (((((((z1 + (p28)) + (p37)) + (p46)) + (p55)) + (p64)) + (p73)) + (p82))) (h4 : v4 = (v3 % 536870912)) (h5 : z2 = (v3 / 536870912)) (h6 : v5 = ((((((z2 + (p38)) + (p47)) + (p56)) + (p65)) + (p74)) + (p83))) (h7 : v6 = (v5 % 536870912)) (h8 : z3 = (v5 / 536870912)) (h9 : v7 = (((((z3 + (p48)) + (p57)) + (p66)) + (p75)) + (p84))) (h10 : v8 = (v7 % 536870912)) (h11 : z4 = (v7 / 536870912)) (h12 : v9 = ((((z4 + (p58)) + (p67)) + (p76)) + (p85))) (h13 : v10 = (v9 % 536870912)) (h14 : z5 = (v9 / 536870912)) (h15 : v11 = (((z5 + (p68)) + (p77)) + (p86))) (h16 : v12 = (v11 % 536870912)) (h17 : z6 = (v11 / 536870912)) (h18 : v13 = ((z6 + (p78)) + (p87))) (h19 : v14 = (v13 % 536870912)) (h20 : z7 = (v13 / 536870912)) (h21 : v15 = (z7 + (p88))) (h22 : v16 = (v15 % 536870912)) (h23 : z8 = (v15 / 536870912)) (h24 : v17 = z8) : v2 + v4 * 536870912 + v6 * 536870912 ^ 2 + v8 * 536870912 ^ 3 + v10 * 536870912 ^ 4 + v12 * 536870912 ^ 5 + v14 * 536870912 ^ 6 + v16 * 536870912 ^ 7 + v17 * 536870912 ^ 8 = (p18 + p27 + p36 + p45 + p54 + p63 + p72 + p81) + (p28 + p37 + p46 + p55 + p64 + p73 + p82) * 536870912 + (p38 + p47 + p56 + p65 + p74 + p83) * 536870912 ^ 2 + (p48 + p57 + p66 + p75 + p84) * 536870912 ^ 3 + (p58 + p67 + p76 + p85) * 536870912 ^ 4 + (p68 + p77 + p86) * 536870912 ^ 5 + (p78 + p87) * 536870912 ^ 6 + (p88) * 536870912 ^ 7 := by
  omega

theorem prod_lo {p00 v18 v19 v20 z13 z14 p01 p10 v4 v21 v22 z18 z19 p02 p11 p20 v6 v23 v24 z23 z24 p03 p12 p21 p30 v8 v25 v26 z28 z29 p04 p13 p22 p31 p40 v10 v27 v28 z33 z34 p05 p14 p23 p32 p41 p50 v12 v29 v30 z38 z39 p06 p15 p24 p33 p42 p51 p60 v14 v31 v32 z43 z44 p07 p16 p25 p34 p43 p52 p61 p70 v16 v33 v34 z48 z49 p08 p17 p26 p35 p44 p53 p62 p71 p80 v17 v35 v36 z53 v37 v38 v39 z57 z58 v40 v41 z62 v42 : Int} (h0 : v19 = ((p00) + ((31264 : Int) * v18))) (h1 : v20 = (v19 % 536870912)) (h2 : z13 = (v19 / 536870912)) (h3 : z14 = (v18 * 256)) (h4 : v21 = ((((z13 + (p01)) + (p10)) + ((31264 : Int) * v4)) + z14)) (h5 : v22 = (v21 % 536870912)) (h6 : z18 = (v21 / 536870912)) (h7 : z19 = (v4 * 256)) (h8 : v23 = (((((z18 + (p02)) + (p11)) + (p20)) + ((31264 : Int) * v6)) + z19)) (h9 : v24 = (v23 % 536870912)) (h10 : z23 = (v23 / 536870912)) (h11 : z24 = (v6 * 256)) (h12 : v25 = ((((((z23 + (p03)) + (p12)) + (p21)) + (p30)) + ((31264 : Int) * v8)) + z24)) (h13 : v26 = (v25 % 536870912)) (h14 : z28 = (v25 / 536870912)) (h15 : z29 = (v8 * 256)) (h16 : v27 = (((((((z28 + (p04)) + (p13)) + (p22)) + (p31)) + (p40)) + ((31264 : Int) * v10)) + z29)) (h17 : v28 = (v27 % 536870912)) (h18 : z33 = (v27 / 536870912)) (h19 : z34 = (v10 * 256)) (h20 : v29 = ((((((((z33 + (p05)) + (p14)) + (p23)) + (p32)) + (p41)) + (p50)) + ((31264 : Int) * v12)) + z34)) (h21 : v30 = (v29 % 536870912)) (h22 : z38 = (v29 / 536870912)) (h23 : z39 = (v12 * 256)) (h24 : v31 = (((((((((z38 + (p06)) + (p15)) + (p24)) + (p33)) + (p42)) + (p51)) + (p60)) + ((31264 : Int) * v14)) + z39)) (h25 : v32 = (v31 % 536870912)) (h26 : z43 = (v31 / 536870912)) (h27 : z44 = (v14 * 256)) (h28 : v33 = ((((((((((z43 + (p07)) + (p16)) + (p25)) + (p34)) + (p43)) + (p52)) + (p61)) + (p70)) + ((31264 : Int) * v16)) + z44)) (h29 : v34 = (v33 % 536870912)) (h30 : z48 = (v33 / 536870912)) (h31 : z49 = (v16 * 256)) (h32 : v35 = (((((((((((z48 + (p08)) + (p17)) + (p26)) + (p35)) + (p44)) + (p53)) + (p62)) + (p71)) + (p80)) + ((31264 : Int) * v17)) + z49)) (h33 : v36 = (v35 % 16777216)) (h34 : z53 = (v35 / 16777216)) (h35 : v37 = z53) (h36 : v38 = (v20 + (v37 * (977 : Int)))) (h37 : v39 = (v38 % 536870912)) (h38 : z57 = (v38 / 536870912)) (h39 : z58 = (v37 * 8)) (h40 : v40 = ((z57 + v22) + z58)) (h41 : v41 = (v40 % 536870912)) (h42 : z62 = (v40 / 536870912)) (h43 : v42 = (v24 + z62)) : v39 + v41 * 536870912 + v42 * 536870912 ^ 2 + v26 * 536870912 ^ 3 + v28 * 536870912 ^ 4 + v30 * 536870912 ^ 5 + v32 * 536870912 ^ 6 + v34 * 536870912 ^ 7 + v36 * 536870912 ^ 8 = (p00) + (p01 + p10) * 536870912 + (p02 + p11 + p20) * 536870912 ^ 2 + (p03 + p12 + p21 + p30) * 536870912 ^ 3 + (p04 + p13 + p22 + p31 + p40) * 536870912 ^ 4 + (p05 + p14 + p23 + p32 + p41 + p50) * 536870912 ^ 5 + (p06 + p15 + p24 + p33 + p42 + p51 + p60) * 536870912 ^ 6 + (p07 + p16 + p25 + p34 + p43 + p52 + p61 + p70) * 536870912 ^ 7 + (p08 + p17 + p26 + p35 + p44 + p53 + p62 + p71 + p80) * 536870912 ^ 8 + (v18 * 31264 + v4 * 31264 * 536870912 + v6 * 31264 * 536870912 ^ 2 + v8 * 31264 * 536870912 ^ 3 + v10 * 31264 * 536870912 ^ 4 + v12 * 31264 * 536870912 ^ 5 + v14 * 31264 * 536870912 ^ 6 + v16 * 31264 * 536870912 ^ 7 + v17 * 31264 * 536870912 ^ 8 + v18 * 256 * 536870912 + v4 * 256 * 536870912 ^ 2 + v6 * 256 * 536870912 ^ 3 + v8 * 256 * 536870912 ^ 4 + v10 * 256 * 536870912 ^ 5 + v12 * 256 * 536870912 ^ 6 + v14 * 256 * 536870912 ^ 7 + v16 * 256 * 536870912 ^ 8) - (536870912 ^ 8 * 16777216 - 4294968273) * v37 := by
  omega

theorem mul_exp (a0 b0 a1 b1 a2 b2 a3 b3 a4 b4 a5 b5 a6 b6 a7 b7 a8 b8 B : Int) : (a0 * B ^ 0 + a1 * B ^ 1 + a2 * B ^ 2 + a3 * B ^ 3 + a4 * B ^ 4 + a5 * B ^ 5 + a6 * B ^ 6 + a7 * B ^ 7 + a8 * B ^ 8) * (b0 * B ^ 0 + b1 * B ^ 1 + b2 * B ^ 2 + b3 * B ^ 3 + b4 * B ^ 4 + b5 * B ^ 5 + b6 * B ^ 6 + b7 * B ^ 7 + b8 * B ^ 8) = (a0 * b0) * B ^ 0 + (a0 * b1 + a1 * b0) * B ^ 1 + (a0 * b2 + a1 * b1 + a2 * b0) * B ^ 2 + (a0 * b3 + a1 * b2 + a2 * b1 + a3 * b0) * B ^ 3 + (a0 * b4 + a1 * b3 + a2 * b2 + a3 * b1 + a4 * b0) * B ^ 4 + (a0 * b5 + a1 * b4 + a2 * b3 + a3 * b2 + a4 * b1 + a5 * b0) * B ^ 5 + (a0 * b6 + a1 * b5 + a2 * b4 + a3 * b3 + a4 * b2 + a5 * b1 + a6 * b0) * B ^ 6 + (a0 * b7 + a1 * b6 + a2 * b5 + a3 * b4 + a4 * b3 + a5 * b2 + a6 * b1 + a7 * b0) * B ^ 7 + (a0 * b8 + a1 * b7 + a2 * b6 + a3 * b5 + a4 * b4 + a5 * b3 + a6 * b2 + a7 * b1 + a8 * b0) * B ^ 8 + (a1 * b8 + a2 * b7 + a3 * b6 + a4 * b5 + a5 * b4 + a6 * b3 + a7 * b2 + a8 * b1) * B ^ 9 + (a2 * b8 + a3 * b7 + a4 * b6 + a5 * b5 + a6 * b4 + a7 * b3 + a8 * b2) * B ^ 10 + (a3 * b8 + a4 * b7 + a5 * b6 + a6 * b5 + a7 * b4 + a8 * b3) * B ^ 11 + (a4 * b8 + a5 * b7 + a6 * b6 + a7 * b5 + a8 * b4) * B ^ 12 + (a5 * b8 + a6 * b7 + a7 * b6 + a8 * b5) * B ^ 13 + (a6 * b8 + a7 * b7 + a8 * b6) * B ^ 14 + (a7 * b8 + a8 * b7) * B ^ 15 + (a8 * b8) * B ^ 16 := by
  grind
theorem prod_fin {v2 v18 v17 z9 h4 h6 h8 h10 h12 h14 h16 v37 Lo Vo U : Int} (hz : z9 = v17 * 256) (h18 : v18 = v2 + z9) (hU : U = v2 + h4 * 536870912 + h6 * 536870912 ^ 2 + h8 * 536870912 ^ 3 + h10 * 536870912 ^ 4 + h12 * 536870912 ^ 5 + h14 * 536870912 ^ 6 + h16 * 536870912 ^ 7 + v17 * 536870912 ^ 8) (hV : Vo = Lo + (v18 * 31264 + h4 * 31264 * 536870912 + h6 * 31264 * 536870912 ^ 2 + h8 * 31264 * 536870912 ^ 3 + h10 * 31264 * 536870912 ^ 4 + h12 * 31264 * 536870912 ^ 5 + h14 * 31264 * 536870912 ^ 6 + h16 * 31264 * 536870912 ^ 7 + v17 * 31264 * 536870912 ^ 8 + v18 * 256 * 536870912 + h4 * 256 * 536870912 ^ 2 + h6 * 256 * 536870912 ^ 3 + h8 * 256 * 536870912 ^ 4 + h10 * 256 * 536870912 ^ 5 + h12 * 256 * 536870912 ^ 6 + h14 * 256 * 536870912 ^ 7 + h16 * 256 * 536870912 ^ 8) - (536870912 ^ 8 * 16777216 - 4294968273) * v37) : Vo = Lo + 536870912 ^ 9 * U - (536870912 ^ 8 * 16777216 - 4294968273) * (32 * U + 8192 * v17 + v37) := by
  omega
theorem cV_mul (la lb : Nat → Int64) : cV la * cV lb = ((la 0).toInt * (lb 0).toInt) + ((la 0).toInt * (lb 1).toInt + (la 1).toInt * (lb 0).toInt) * 536870912 + ((la 0).toInt * (lb 2).toInt + (la 1).toInt * (lb 1).toInt + (la 2).toInt * (lb 0).toInt) * 536870912 ^ 2 + ((la 0).toInt * (lb 3).toInt + (la 1).toInt * (lb 2).toInt + (la 2).toInt * (lb 1).toInt + (la 3).toInt * (lb 0).toInt) * 536870912 ^ 3 + ((la 0).toInt * (lb 4).toInt + (la 1).toInt * (lb 3).toInt + (la 2).toInt * (lb 2).toInt + (la 3).toInt * (lb 1).toInt + (la 4).toInt * (lb 0).toInt) * 536870912 ^ 4 + ((la 0).toInt * (lb 5).toInt + (la 1).toInt * (lb 4).toInt + (la 2).toInt * (lb 3).toInt + (la 3).toInt * (lb 2).toInt + (la 4).toInt * (lb 1).toInt + (la 5).toInt * (lb 0).toInt) * 536870912 ^ 5 + ((la 0).toInt * (lb 6).toInt + (la 1).toInt * (lb 5).toInt + (la 2).toInt * (lb 4).toInt + (la 3).toInt * (lb 3).toInt + (la 4).toInt * (lb 2).toInt + (la 5).toInt * (lb 1).toInt + (la 6).toInt * (lb 0).toInt) * 536870912 ^ 6 + ((la 0).toInt * (lb 7).toInt + (la 1).toInt * (lb 6).toInt + (la 2).toInt * (lb 5).toInt + (la 3).toInt * (lb 4).toInt + (la 4).toInt * (lb 3).toInt + (la 5).toInt * (lb 2).toInt + (la 6).toInt * (lb 1).toInt + (la 7).toInt * (lb 0).toInt) * 536870912 ^ 7 + ((la 0).toInt * (lb 8).toInt + (la 1).toInt * (lb 7).toInt + (la 2).toInt * (lb 6).toInt + (la 3).toInt * (lb 5).toInt + (la 4).toInt * (lb 4).toInt + (la 5).toInt * (lb 3).toInt + (la 6).toInt * (lb 2).toInt + (la 7).toInt * (lb 1).toInt + (la 8).toInt * (lb 0).toInt) * 536870912 ^ 8 + 536870912 ^ 9 * (((la 1).toInt * (lb 8).toInt + (la 2).toInt * (lb 7).toInt + (la 3).toInt * (lb 6).toInt + (la 4).toInt * (lb 5).toInt + (la 5).toInt * (lb 4).toInt + (la 6).toInt * (lb 3).toInt + (la 7).toInt * (lb 2).toInt + (la 8).toInt * (lb 1).toInt) + ((la 2).toInt * (lb 8).toInt + (la 3).toInt * (lb 7).toInt + (la 4).toInt * (lb 6).toInt + (la 5).toInt * (lb 5).toInt + (la 6).toInt * (lb 4).toInt + (la 7).toInt * (lb 3).toInt + (la 8).toInt * (lb 2).toInt) * 536870912 + ((la 3).toInt * (lb 8).toInt + (la 4).toInt * (lb 7).toInt + (la 5).toInt * (lb 6).toInt + (la 6).toInt * (lb 5).toInt + (la 7).toInt * (lb 4).toInt + (la 8).toInt * (lb 3).toInt) * 536870912 ^ 2 + ((la 4).toInt * (lb 8).toInt + (la 5).toInt * (lb 7).toInt + (la 6).toInt * (lb 6).toInt + (la 7).toInt * (lb 5).toInt + (la 8).toInt * (lb 4).toInt) * 536870912 ^ 3 + ((la 5).toInt * (lb 8).toInt + (la 6).toInt * (lb 7).toInt + (la 7).toInt * (lb 6).toInt + (la 8).toInt * (lb 5).toInt) * 536870912 ^ 4 + ((la 6).toInt * (lb 8).toInt + (la 7).toInt * (lb 7).toInt + (la 8).toInt * (lb 6).toInt) * 536870912 ^ 5 + ((la 7).toInt * (lb 8).toInt + (la 8).toInt * (lb 7).toInt) * 536870912 ^ 6 + ((la 8).toInt * (lb 8).toInt) * 536870912 ^ 7) := by
  unfold cV
  have h := mul_exp (la 0).toInt (lb 0).toInt (la 1).toInt (lb 1).toInt (la 2).toInt (lb 2).toInt (la 3).toInt (lb 3).toInt (la 4).toInt (lb 4).toInt (la 5).toInt (lb 5).toInt (la 6).toInt (lb 6).toInt (la 7).toInt (lb 7).toInt (la 8).toInt (lb 8).toInt 536870912
  simp only [Int.pow_zero, Int.mul_one, Int.pow_one] at h
  rw [h]
  generalize ((la 0).toInt * (lb 0).toInt) = m0 at *
  generalize ((la 0).toInt * (lb 1).toInt) = m1 at *
  generalize ((la 1).toInt * (lb 0).toInt) = m2 at *
  generalize ((la 0).toInt * (lb 2).toInt) = m3 at *
  generalize ((la 1).toInt * (lb 1).toInt) = m4 at *
  generalize ((la 2).toInt * (lb 0).toInt) = m5 at *
  generalize ((la 0).toInt * (lb 3).toInt) = m6 at *
  generalize ((la 1).toInt * (lb 2).toInt) = m7 at *
  generalize ((la 2).toInt * (lb 1).toInt) = m8 at *
  generalize ((la 3).toInt * (lb 0).toInt) = m9 at *
  generalize ((la 0).toInt * (lb 4).toInt) = m10 at *
  generalize ((la 1).toInt * (lb 3).toInt) = m11 at *
  generalize ((la 2).toInt * (lb 2).toInt) = m12 at *
  generalize ((la 3).toInt * (lb 1).toInt) = m13 at *
  generalize ((la 4).toInt * (lb 0).toInt) = m14 at *
  generalize ((la 0).toInt * (lb 5).toInt) = m15 at *
  generalize ((la 1).toInt * (lb 4).toInt) = m16 at *
  generalize ((la 2).toInt * (lb 3).toInt) = m17 at *
  generalize ((la 3).toInt * (lb 2).toInt) = m18 at *
  generalize ((la 4).toInt * (lb 1).toInt) = m19 at *
  generalize ((la 5).toInt * (lb 0).toInt) = m20 at *
  generalize ((la 0).toInt * (lb 6).toInt) = m21 at *
  generalize ((la 1).toInt * (lb 5).toInt) = m22 at *
  generalize ((la 2).toInt * (lb 4).toInt) = m23 at *
  generalize ((la 3).toInt * (lb 3).toInt) = m24 at *
  generalize ((la 4).toInt * (lb 2).toInt) = m25 at *
  generalize ((la 5).toInt * (lb 1).toInt) = m26 at *
  generalize ((la 6).toInt * (lb 0).toInt) = m27 at *
  generalize ((la 0).toInt * (lb 7).toInt) = m28 at *
  generalize ((la 1).toInt * (lb 6).toInt) = m29 at *
  generalize ((la 2).toInt * (lb 5).toInt) = m30 at *
  generalize ((la 3).toInt * (lb 4).toInt) = m31 at *
  generalize ((la 4).toInt * (lb 3).toInt) = m32 at *
  generalize ((la 5).toInt * (lb 2).toInt) = m33 at *
  generalize ((la 6).toInt * (lb 1).toInt) = m34 at *
  generalize ((la 7).toInt * (lb 0).toInt) = m35 at *
  generalize ((la 0).toInt * (lb 8).toInt) = m36 at *
  generalize ((la 1).toInt * (lb 7).toInt) = m37 at *
  generalize ((la 2).toInt * (lb 6).toInt) = m38 at *
  generalize ((la 3).toInt * (lb 5).toInt) = m39 at *
  generalize ((la 4).toInt * (lb 4).toInt) = m40 at *
  generalize ((la 5).toInt * (lb 3).toInt) = m41 at *
  generalize ((la 6).toInt * (lb 2).toInt) = m42 at *
  generalize ((la 7).toInt * (lb 1).toInt) = m43 at *
  generalize ((la 8).toInt * (lb 0).toInt) = m44 at *
  generalize ((la 1).toInt * (lb 8).toInt) = m45 at *
  generalize ((la 2).toInt * (lb 7).toInt) = m46 at *
  generalize ((la 3).toInt * (lb 6).toInt) = m47 at *
  generalize ((la 4).toInt * (lb 5).toInt) = m48 at *
  generalize ((la 5).toInt * (lb 4).toInt) = m49 at *
  generalize ((la 6).toInt * (lb 3).toInt) = m50 at *
  generalize ((la 7).toInt * (lb 2).toInt) = m51 at *
  generalize ((la 8).toInt * (lb 1).toInt) = m52 at *
  generalize ((la 2).toInt * (lb 8).toInt) = m53 at *
  generalize ((la 3).toInt * (lb 7).toInt) = m54 at *
  generalize ((la 4).toInt * (lb 6).toInt) = m55 at *
  generalize ((la 5).toInt * (lb 5).toInt) = m56 at *
  generalize ((la 6).toInt * (lb 4).toInt) = m57 at *
  generalize ((la 7).toInt * (lb 3).toInt) = m58 at *
  generalize ((la 8).toInt * (lb 2).toInt) = m59 at *
  generalize ((la 3).toInt * (lb 8).toInt) = m60 at *
  generalize ((la 4).toInt * (lb 7).toInt) = m61 at *
  generalize ((la 5).toInt * (lb 6).toInt) = m62 at *
  generalize ((la 6).toInt * (lb 5).toInt) = m63 at *
  generalize ((la 7).toInt * (lb 4).toInt) = m64 at *
  generalize ((la 8).toInt * (lb 3).toInt) = m65 at *
  generalize ((la 4).toInt * (lb 8).toInt) = m66 at *
  generalize ((la 5).toInt * (lb 7).toInt) = m67 at *
  generalize ((la 6).toInt * (lb 6).toInt) = m68 at *
  generalize ((la 7).toInt * (lb 5).toInt) = m69 at *
  generalize ((la 8).toInt * (lb 4).toInt) = m70 at *
  generalize ((la 5).toInt * (lb 8).toInt) = m71 at *
  generalize ((la 6).toInt * (lb 7).toInt) = m72 at *
  generalize ((la 7).toInt * (lb 6).toInt) = m73 at *
  generalize ((la 8).toInt * (lb 5).toInt) = m74 at *
  generalize ((la 6).toInt * (lb 8).toInt) = m75 at *
  generalize ((la 7).toInt * (lb 7).toInt) = m76 at *
  generalize ((la 8).toInt * (lb 6).toInt) = m77 at *
  generalize ((la 7).toInt * (lb 8).toInt) = m78 at *
  generalize ((la 8).toInt * (lb 7).toInt) = m79 at *
  generalize ((la 8).toInt * (lb 8).toInt) = m80 at *
  omega
theorem mod_of_eq {V q : Int} {x y : Nat} {A B : Int} (hA : A % (PP : Int) = x) (hB : B % (PP : Int) = y) (h : V = A * B - (PP : Int) * q) : V % (PP : Int) = ((x * y % PP : Nat) : Int) := by
  rw [h, Int.sub_mul_emod_self_left, Int.mul_emod, hA, hB]
  norm_cast

set_option maxHeartbeats 4000000 in
set_option maxRecDepth 100000 in
theorem c_X1_product (l : Launch) (G : Nat → ClassId) (o a b x y : Nat) (lo : Nat → Int64) : jKv l yX1_product wsX1_product ({ frames := 0, cells := 0, slots := 0, locals := 0 }) G [.ref o, .ref a, .ref b] (fun L F => jF L F o (cC lo) ∧ jCo L F a x ∧ jCo L F b y) (fun L F F1 => jCo L F1 o (x * y % PP) ∧ ∀ z, z ∉ [o] → F1 z = F z) := by
  refine jm_kv (cc := cX1_product) (maxL := 61) (by decide) rfl (Nat.le_of_ble_eq_true rfl) ?_
  intro E L F hE hR hpre
  have hE : jOk E G _ cX1_product 61 RX1 wsX1_product := hE
  obtain ⟨ho, ⟨la, ha, hKa, hx⟩, ⟨lb, hb, hKb, hy⟩⟩ := hpre
  have f7 : jFl RX1 wsX1_product 7 1 0 := ⟨rfl, by decide, by decide +kernel, by decide +kernel⟩
  have f13 : jFl RX1 wsX1_product 13 1 1 := ⟨rfl, by decide, by decide +kernel, by decide +kernel⟩
  have f16 : jFl RX1 wsX1_product 16 1 2 := ⟨rfl, by decide, by decide +kernel, by decide +kernel⟩
  have f19 : jFl RX1 wsX1_product 19 1 3 := ⟨rfl, by decide, by decide +kernel, by decide +kernel⟩
  have f22 : jFl RX1 wsX1_product 22 1 4 := ⟨rfl, by decide, by decide +kernel, by decide +kernel⟩
  have f25 : jFl RX1 wsX1_product 25 1 5 := ⟨rfl, by decide, by decide +kernel, by decide +kernel⟩
  have f28 : jFl RX1 wsX1_product 28 1 6 := ⟨rfl, by decide, by decide +kernel, by decide +kernel⟩
  have f31 : jFl RX1 wsX1_product 31 1 7 := ⟨rfl, by decide, by decide +kernel, by decide +kernel⟩
  have f34 : jFl RX1 wsX1_product 34 1 8 := ⟨rfl, by decide, by decide +kernel, by decide +kernel⟩
  refine jr_aload_n hE dX1_product_0 1 rfl ?_
  refine jr_get hE dX1_product_1 f7 ha rfl ?_
  refine jr_lstore_n (lv' := [(3, .long (la 0)), (0, .ref o), (1, .ref a), (2, .ref b)]) hE dX1_product_4 (by decide) rfl ?_
  refine jr_aload_n hE dX1_product_5 2 rfl ?_
  refine jr_get hE dX1_product_6 f13 ha rfl ?_
  refine jr_lstore (lv' := [(5, .long (la 1)), (3, .long (la 0)), (0, .ref o), (1, .ref a), (2, .ref b)]) hE dX1_product_9 (by decide) rfl ?_
  refine jr_aload_n hE dX1_product_11 3 rfl ?_
  refine jr_get hE dX1_product_12 f16 ha rfl ?_
  refine jr_lstore (lv' := [(7, .long (la 2)), (5, .long (la 1)), (3, .long (la 0)), (0, .ref o), (1, .ref a), (2, .ref b)]) hE dX1_product_15 (by decide) rfl ?_
  refine jr_aload_n hE dX1_product_17 4 rfl ?_
  refine jr_get hE dX1_product_18 f19 ha rfl ?_
  refine jr_lstore (lv' := [(9, .long (la 3)), (7, .long (la 2)), (5, .long (la 1)), (3, .long (la 0)), (0, .ref o), (1, .ref a), (2, .ref b)]) hE dX1_product_21 (by decide) rfl ?_
  refine jr_aload_n hE dX1_product_23 5 rfl ?_
  refine jr_get hE dX1_product_24 f22 ha rfl ?_
  refine jr_lstore (lv' := [(11, .long (la 4)), (9, .long (la 3)), (7, .long (la 2)), (5, .long (la 1)), (3, .long (la 0)), (0, .ref o), (1, .ref a), (2, .ref b)]) hE dX1_product_27 (by decide) rfl ?_
  refine jr_aload_n hE dX1_product_29 6 rfl ?_
  refine jr_get hE dX1_product_30 f25 ha rfl ?_
  refine jr_lstore (lv' := [(13, .long (la 5)), (11, .long (la 4)), (9, .long (la 3)), (7, .long (la 2)), (5, .long (la 1)), (3, .long (la 0)), (0, .ref o), (1, .ref a), (2, .ref b)]) hE dX1_product_33 (by decide) rfl ?_
  refine jr_aload_n hE dX1_product_35 7 rfl ?_
  refine jr_get hE dX1_product_36 f28 ha rfl ?_
  refine jr_lstore (lv' := [(15, .long (la 6)), (13, .long (la 5)), (11, .long (la 4)), (9, .long (la 3)), (7, .long (la 2)), (5, .long (la 1)), (3, .long (la 0)), (0, .ref o), (1, .ref a), (2, .ref b)]) hE dX1_product_39 (by decide) rfl ?_
  refine jr_aload_n hE dX1_product_41 8 rfl ?_
  refine jr_get hE dX1_product_42 f31 ha rfl ?_
  refine jr_lstore (lv' := [(17, .long (la 7)), (15, .long (la 6)), (13, .long (la 5)), (11, .long (la 4)), (9, .long (la 3)), (7, .long (la 2)), (5, .long (la 1)), (3, .long (la 0)), (0, .ref o), (1, .ref a), (2, .ref b)]) hE dX1_product_45 (by decide) rfl ?_
  refine jr_aload_n hE dX1_product_47 9 rfl ?_
  refine jr_get hE dX1_product_48 f34 ha rfl ?_
  refine jr_lstore (lv' := [(19, .long (la 8)), (17, .long (la 7)), (15, .long (la 6)), (13, .long (la 5)), (11, .long (la 4)), (9, .long (la 3)), (7, .long (la 2)), (5, .long (la 1)), (3, .long (la 0)), (0, .ref o), (1, .ref a), (2, .ref b)]) hE dX1_product_51 (by decide) rfl ?_
  refine jr_aload_n hE dX1_product_53 11 rfl ?_
  refine jr_get hE dX1_product_54 f7 hb rfl ?_
  refine jr_lstore (lv' := [(21, .long (lb 0)), (19, .long (la 8)), (17, .long (la 7)), (15, .long (la 6)), (13, .long (la 5)), (11, .long (la 4)), (9, .long (la 3)), (7, .long (la 2)), (5, .long (la 1)), (3, .long (la 0)), (0, .ref o), (1, .ref a), (2, .ref b)]) hE dX1_product_57 (by decide) rfl ?_
  refine jr_aload_n hE dX1_product_59 12 rfl ?_
  refine jr_get hE dX1_product_60 f13 hb rfl ?_
  refine jr_lstore (lv' := [(23, .long (lb 1)), (21, .long (lb 0)), (19, .long (la 8)), (17, .long (la 7)), (15, .long (la 6)), (13, .long (la 5)), (11, .long (la 4)), (9, .long (la 3)), (7, .long (la 2)), (5, .long (la 1)), (3, .long (la 0)), (0, .ref o), (1, .ref a), (2, .ref b)]) hE dX1_product_63 (by decide) rfl ?_
  refine jr_aload_n hE dX1_product_65 13 rfl ?_
  refine jr_get hE dX1_product_66 f16 hb rfl ?_
  refine jr_lstore (lv' := [(25, .long (lb 2)), (23, .long (lb 1)), (21, .long (lb 0)), (19, .long (la 8)), (17, .long (la 7)), (15, .long (la 6)), (13, .long (la 5)), (11, .long (la 4)), (9, .long (la 3)), (7, .long (la 2)), (5, .long (la 1)), (3, .long (la 0)), (0, .ref o), (1, .ref a), (2, .ref b)]) hE dX1_product_69 (by decide) rfl ?_
  refine jr_aload_n hE dX1_product_71 14 rfl ?_
  refine jr_get hE dX1_product_72 f19 hb rfl ?_
  refine jr_lstore (lv' := [(27, .long (lb 3)), (25, .long (lb 2)), (23, .long (lb 1)), (21, .long (lb 0)), (19, .long (la 8)), (17, .long (la 7)), (15, .long (la 6)), (13, .long (la 5)), (11, .long (la 4)), (9, .long (la 3)), (7, .long (la 2)), (5, .long (la 1)), (3, .long (la 0)), (0, .ref o), (1, .ref a), (2, .ref b)]) hE dX1_product_75 (by decide) rfl ?_
  refine jr_aload_n hE dX1_product_77 15 rfl ?_
  refine jr_get hE dX1_product_78 f22 hb rfl ?_
  refine jr_lstore (lv' := [(29, .long (lb 4)), (27, .long (lb 3)), (25, .long (lb 2)), (23, .long (lb 1)), (21, .long (lb 0)), (19, .long (la 8)), (17, .long (la 7)), (15, .long (la 6)), (13, .long (la 5)), (11, .long (la 4)), (9, .long (la 3)), (7, .long (la 2)), (5, .long (la 1)), (3, .long (la 0)), (0, .ref o), (1, .ref a), (2, .ref b)]) hE dX1_product_81 (by decide) rfl ?_
  refine jr_aload_n hE dX1_product_83 16 rfl ?_
  refine jr_get hE dX1_product_84 f25 hb rfl ?_
  refine jr_lstore (lv' := [(31, .long (lb 5)), (29, .long (lb 4)), (27, .long (lb 3)), (25, .long (lb 2)), (23, .long (lb 1)), (21, .long (lb 0)), (19, .long (la 8)), (17, .long (la 7)), (15, .long (la 6)), (13, .long (la 5)), (11, .long (la 4)), (9, .long (la 3)), (7, .long (la 2)), (5, .long (la 1)), (3, .long (la 0)), (0, .ref o), (1, .ref a), (2, .ref b)]) hE dX1_product_87 (by decide) rfl ?_
  refine jr_aload_n hE dX1_product_89 17 rfl ?_
  refine jr_get hE dX1_product_90 f28 hb rfl ?_
  refine jr_lstore (lv' := [(33, .long (lb 6)), (31, .long (lb 5)), (29, .long (lb 4)), (27, .long (lb 3)), (25, .long (lb 2)), (23, .long (lb 1)), (21, .long (lb 0)), (19, .long (la 8)), (17, .long (la 7)), (15, .long (la 6)), (13, .long (la 5)), (11, .long (la 4)), (9, .long (la 3)), (7, .long (la 2)), (5, .long (la 1)), (3, .long (la 0)), (0, .ref o), (1, .ref a), (2, .ref b)]) hE dX1_product_93 (by decide) rfl ?_
  refine jr_aload_n hE dX1_product_95 18 rfl ?_
  refine jr_get hE dX1_product_96 f31 hb rfl ?_
  refine jr_lstore (lv' := [(35, .long (lb 7)), (33, .long (lb 6)), (31, .long (lb 5)), (29, .long (lb 4)), (27, .long (lb 3)), (25, .long (lb 2)), (23, .long (lb 1)), (21, .long (lb 0)), (19, .long (la 8)), (17, .long (la 7)), (15, .long (la 6)), (13, .long (la 5)), (11, .long (la 4)), (9, .long (la 3)), (7, .long (la 2)), (5, .long (la 1)), (3, .long (la 0)), (0, .ref o), (1, .ref a), (2, .ref b)]) hE dX1_product_99 (by decide) rfl ?_
  refine jr_aload_n hE dX1_product_101 19 rfl ?_
  refine jr_get hE dX1_product_102 f34 hb rfl ?_
  refine jr_lstore (lv' := [(37, .long (lb 8)), (35, .long (lb 7)), (33, .long (lb 6)), (31, .long (lb 5)), (29, .long (lb 4)), (27, .long (lb 3)), (25, .long (lb 2)), (23, .long (lb 1)), (21, .long (lb 0)), (19, .long (la 8)), (17, .long (la 7)), (15, .long (la 6)), (13, .long (la 5)), (11, .long (la 4)), (9, .long (la 3)), (7, .long (la 2)), (5, .long (la 1)), (3, .long (la 0)), (0, .ref o), (1, .ref a), (2, .ref b)]) hE dX1_product_105 (by decide) rfl ?_
  refine jr_lload hE dX1_product_107 16 rfl ?_
  refine jr_lload hE dX1_product_109 0 rfl ?_
  refine jr_lmul hE dX1_product_111 rfl ?_
  refine jr_lload hE dX1_product_112 15 rfl ?_
  refine jr_lload hE dX1_product_114 1 rfl ?_
  refine jr_lmul hE dX1_product_116 rfl ?_
  refine jr_ladd hE dX1_product_117 rfl ?_
  refine jr_lload hE dX1_product_118 14 rfl ?_
  refine jr_lload hE dX1_product_120 2 rfl ?_
  refine jr_lmul hE dX1_product_122 rfl ?_
  refine jr_ladd hE dX1_product_123 rfl ?_
  refine jr_lload hE dX1_product_124 13 rfl ?_
  refine jr_lload hE dX1_product_126 3 rfl ?_
  refine jr_lmul hE dX1_product_128 rfl ?_
  refine jr_ladd hE dX1_product_129 rfl ?_
  refine jr_lload hE dX1_product_130 12 rfl ?_
  refine jr_lload hE dX1_product_132 4 rfl ?_
  refine jr_lmul hE dX1_product_134 rfl ?_
  refine jr_ladd hE dX1_product_135 rfl ?_
  refine jr_lload hE dX1_product_136 11 rfl ?_
  refine jr_lload hE dX1_product_138 5 rfl ?_
  refine jr_lmul hE dX1_product_140 rfl ?_
  refine jr_ladd hE dX1_product_141 rfl ?_
  refine jr_lload hE dX1_product_142 10 rfl ?_
  refine jr_lload hE dX1_product_144 6 rfl ?_
  refine jr_lmul hE dX1_product_146 rfl ?_
  refine jr_ladd hE dX1_product_147 rfl ?_
  refine jr_lload hE dX1_product_148 9 rfl ?_
  refine jr_lload hE dX1_product_150 7 rfl ?_
  refine jr_lmul hE dX1_product_152 rfl ?_
  refine jr_ladd hE dX1_product_153 rfl ?_
  refine jr_topl (fun v1 ev1 => ?_)
  obtain ⟨E_v1, B_v1⟩ := iv_nm ev1 (iv_add (iv_add (iv_add (iv_add (iv_add (iv_add (iv_add (iv_mul (hKa.1 1 (by decide)) hKb.2 (R := 9016270494105600) (by decide)) (iv_mul (hKa.1 2 (by decide)) (hKb.1 7 (by decide)) (R := 288247968606191616) (by decide)) (R := 297264239100297216) (by decide)) (iv_mul (hKa.1 3 (by decide)) (hKb.1 6 (by decide)) (R := 288247968606191616) (by decide)) (R := 585512207706488832) (by decide)) (iv_mul (hKa.1 4 (by decide)) (hKb.1 5 (by decide)) (R := 288247968606191616) (by decide)) (R := 873760176312680448) (by decide)) (iv_mul (hKa.1 5 (by decide)) (hKb.1 4 (by decide)) (R := 288247968606191616) (by decide)) (R := 1162008144918872064) (by decide)) (iv_mul (hKa.1 6 (by decide)) (hKb.1 3 (by decide)) (R := 288247968606191616) (by decide)) (R := 1450256113525063680) (by decide)) (iv_mul (hKa.1 7 (by decide)) (hKb.1 2 (by decide)) (R := 288247968606191616) (by decide)) (R := 1738504082131255296) (by decide)) (iv_mul hKa.2 (hKb.1 1 (by decide)) (R := 9016270494105600) (by decide)) (R := 1747520352625360896) (by decide))
  refine jr_lstore (lv' := [(39, .long v1), (37, .long (lb 8)), (35, .long (lb 7)), (33, .long (lb 6)), (31, .long (lb 5)), (29, .long (lb 4)), (27, .long (lb 3)), (25, .long (lb 2)), (23, .long (lb 1)), (21, .long (lb 0)), (19, .long (la 8)), (17, .long (la 7)), (15, .long (la 6)), (13, .long (la 5)), (11, .long (la 4)), (9, .long (la 3)), (7, .long (la 2)), (5, .long (la 1)), (3, .long (la 0)), (0, .ref o), (1, .ref a), (2, .ref b)]) hE dX1_product_154 (by decide) rfl ?_
  refine jr_lload hE dX1_product_156 0 rfl ?_
  refine jr_ldc2 (v := (536870911 : Int64)) hE dX1_product_158 (by decide +kernel) ?_
  refine jr_land hE dX1_product_161 rfl ?_
  refine jr_topl (fun v2 ev2 => ?_)
  obtain ⟨E_v2, B_v2⟩ := iv_nm ev2 (iv_and B_v1 (c := 536870911) (p := 536870912) (R := 536870911) 29 (by decide) (by decide) (by decide))
  refine jr_lstore (lv' := [(41, .long v2), (39, .long v1), (37, .long (lb 8)), (35, .long (lb 7)), (33, .long (lb 6)), (31, .long (lb 5)), (29, .long (lb 4)), (27, .long (lb 3)), (25, .long (lb 2)), (23, .long (lb 1)), (21, .long (lb 0)), (19, .long (la 8)), (17, .long (la 7)), (15, .long (la 6)), (13, .long (la 5)), (11, .long (la 4)), (9, .long (la 3)), (7, .long (la 2)), (5, .long (la 1)), (3, .long (la 0)), (0, .ref o), (1, .ref a), (2, .ref b)]) hE dX1_product_162 (by decide) rfl ?_
  refine jr_lload hE dX1_product_164 1 rfl ?_
  refine jr_bipush (v := (29 : Int32)) hE dX1_product_166 (by decide) ?_
  refine jr_lshr hE dX1_product_168 rfl ?_
  refine jr_topl (fun z1 ez1 => ?_)
  obtain ⟨E_z1, B_z1⟩ := iv_nm ez1 (iv_shr B_v1 (c := 29) (k := 29) (p := 536870912) (R := 3255010309) (by decide) (by decide) (by decide))
  refine jr_lload hE dX1_product_169 17 rfl ?_
  refine jr_lload hE dX1_product_171 2 rfl ?_
  refine jr_lmul hE dX1_product_173 rfl ?_
  refine jr_ladd hE dX1_product_174 rfl ?_
  refine jr_lload hE dX1_product_175 16 rfl ?_
  refine jr_lload hE dX1_product_177 3 rfl ?_
  refine jr_lmul hE dX1_product_179 rfl ?_
  refine jr_ladd hE dX1_product_180 rfl ?_
  refine jr_lload hE dX1_product_181 15 rfl ?_
  refine jr_lload hE dX1_product_183 4 rfl ?_
  refine jr_lmul hE dX1_product_185 rfl ?_
  refine jr_ladd hE dX1_product_186 rfl ?_
  refine jr_lload hE dX1_product_187 14 rfl ?_
  refine jr_lload hE dX1_product_189 5 rfl ?_
  refine jr_lmul hE dX1_product_191 rfl ?_
  refine jr_ladd hE dX1_product_192 rfl ?_
  refine jr_lload hE dX1_product_193 13 rfl ?_
  refine jr_lload hE dX1_product_195 6 rfl ?_
  refine jr_lmul hE dX1_product_197 rfl ?_
  refine jr_ladd hE dX1_product_198 rfl ?_
  refine jr_lload hE dX1_product_199 12 rfl ?_
  refine jr_lload hE dX1_product_201 7 rfl ?_
  refine jr_lmul hE dX1_product_203 rfl ?_
  refine jr_ladd hE dX1_product_204 rfl ?_
  refine jr_lload hE dX1_product_205 11 rfl ?_
  refine jr_lload hE dX1_product_207 8 rfl ?_
  refine jr_lmul hE dX1_product_209 rfl ?_
  refine jr_ladd hE dX1_product_210 rfl ?_
  refine jr_topl (fun v3 ev3 => ?_)
  obtain ⟨E_v3, B_v3⟩ := iv_nm ev3 (iv_add (iv_add (iv_add (iv_add (iv_add (iv_add (iv_add B_z1 (iv_mul (hKa.1 2 (by decide)) hKb.2 (R := 9016270494105600) (by decide)) (R := 9016273749115909) (by decide)) (iv_mul (hKa.1 3 (by decide)) (hKb.1 7 (by decide)) (R := 288247968606191616) (by decide)) (R := 297264242355307525) (by decide)) (iv_mul (hKa.1 4 (by decide)) (hKb.1 6 (by decide)) (R := 288247968606191616) (by decide)) (R := 585512210961499141) (by decide)) (iv_mul (hKa.1 5 (by decide)) (hKb.1 5 (by decide)) (R := 288247968606191616) (by decide)) (R := 873760179567690757) (by decide)) (iv_mul (hKa.1 6 (by decide)) (hKb.1 4 (by decide)) (R := 288247968606191616) (by decide)) (R := 1162008148173882373) (by decide)) (iv_mul (hKa.1 7 (by decide)) (hKb.1 3 (by decide)) (R := 288247968606191616) (by decide)) (R := 1450256116780073989) (by decide)) (iv_mul hKa.2 (hKb.1 2 (by decide)) (R := 9016270494105600) (by decide)) (R := 1459272387274179589) (by decide))
  refine jr_lstore (lv' := [(39, .long v3), (41, .long v2), (37, .long (lb 8)), (35, .long (lb 7)), (33, .long (lb 6)), (31, .long (lb 5)), (29, .long (lb 4)), (27, .long (lb 3)), (25, .long (lb 2)), (23, .long (lb 1)), (21, .long (lb 0)), (19, .long (la 8)), (17, .long (la 7)), (15, .long (la 6)), (13, .long (la 5)), (11, .long (la 4)), (9, .long (la 3)), (7, .long (la 2)), (5, .long (la 1)), (3, .long (la 0)), (0, .ref o), (1, .ref a), (2, .ref b)]) hE dX1_product_211 (by decide) rfl ?_
  refine jr_lload hE dX1_product_213 0 rfl ?_
  refine jr_ldc2 (v := (536870911 : Int64)) hE dX1_product_215 (by decide +kernel) ?_
  refine jr_land hE dX1_product_218 rfl ?_
  refine jr_topl (fun v4 ev4 => ?_)
  obtain ⟨E_v4, B_v4⟩ := iv_nm ev4 (iv_and B_v3 (c := 536870911) (p := 536870912) (R := 536870911) 29 (by decide) (by decide) (by decide))
  refine jr_lstore (lv' := [(43, .long v4), (39, .long v3), (41, .long v2), (37, .long (lb 8)), (35, .long (lb 7)), (33, .long (lb 6)), (31, .long (lb 5)), (29, .long (lb 4)), (27, .long (lb 3)), (25, .long (lb 2)), (23, .long (lb 1)), (21, .long (lb 0)), (19, .long (la 8)), (17, .long (la 7)), (15, .long (la 6)), (13, .long (la 5)), (11, .long (la 4)), (9, .long (la 3)), (7, .long (la 2)), (5, .long (la 1)), (3, .long (la 0)), (0, .ref o), (1, .ref a), (2, .ref b)]) hE dX1_product_219 (by decide) rfl ?_
  refine jr_lload hE dX1_product_221 1 rfl ?_
  refine jr_bipush (v := (29 : Int32)) hE dX1_product_223 (by decide) ?_
  refine jr_lshr hE dX1_product_225 rfl ?_
  refine jr_topl (fun z2 ez2 => ?_)
  obtain ⟨E_z2, B_z2⟩ := iv_nm ez2 (iv_shr B_v3 (c := 29) (k := 29) (p := 536870912) (R := 2718106634) (by decide) (by decide) (by decide))
  refine jr_lload hE dX1_product_226 17 rfl ?_
  refine jr_lload hE dX1_product_228 3 rfl ?_
  refine jr_lmul hE dX1_product_230 rfl ?_
  refine jr_ladd hE dX1_product_231 rfl ?_
  refine jr_lload hE dX1_product_232 16 rfl ?_
  refine jr_lload hE dX1_product_234 4 rfl ?_
  refine jr_lmul hE dX1_product_236 rfl ?_
  refine jr_ladd hE dX1_product_237 rfl ?_
  refine jr_lload hE dX1_product_238 15 rfl ?_
  refine jr_lload hE dX1_product_240 5 rfl ?_
  refine jr_lmul hE dX1_product_242 rfl ?_
  refine jr_ladd hE dX1_product_243 rfl ?_
  refine jr_lload hE dX1_product_244 14 rfl ?_
  refine jr_lload hE dX1_product_246 6 rfl ?_
  refine jr_lmul hE dX1_product_248 rfl ?_
  refine jr_ladd hE dX1_product_249 rfl ?_
  refine jr_lload hE dX1_product_250 13 rfl ?_
  refine jr_lload hE dX1_product_252 7 rfl ?_
  refine jr_lmul hE dX1_product_254 rfl ?_
  refine jr_ladd hE dX1_product_255 rfl ?_
  refine jr_lload hE dX1_product_256 12 rfl ?_
  refine jr_lload hE dX1_product_258 8 rfl ?_
  refine jr_lmul hE dX1_product_260 rfl ?_
  refine jr_ladd hE dX1_product_261 rfl ?_
  refine jr_topl (fun v5 ev5 => ?_)
  obtain ⟨E_v5, B_v5⟩ := iv_nm ev5 (iv_add (iv_add (iv_add (iv_add (iv_add (iv_add B_z2 (iv_mul (hKa.1 3 (by decide)) hKb.2 (R := 9016270494105600) (by decide)) (R := 9016273212212234) (by decide)) (iv_mul (hKa.1 4 (by decide)) (hKb.1 7 (by decide)) (R := 288247968606191616) (by decide)) (R := 297264241818403850) (by decide)) (iv_mul (hKa.1 5 (by decide)) (hKb.1 6 (by decide)) (R := 288247968606191616) (by decide)) (R := 585512210424595466) (by decide)) (iv_mul (hKa.1 6 (by decide)) (hKb.1 5 (by decide)) (R := 288247968606191616) (by decide)) (R := 873760179030787082) (by decide)) (iv_mul (hKa.1 7 (by decide)) (hKb.1 4 (by decide)) (R := 288247968606191616) (by decide)) (R := 1162008147636978698) (by decide)) (iv_mul hKa.2 (hKb.1 3 (by decide)) (R := 9016270494105600) (by decide)) (R := 1171024418131084298) (by decide))
  refine jr_lstore (lv' := [(39, .long v5), (43, .long v4), (41, .long v2), (37, .long (lb 8)), (35, .long (lb 7)), (33, .long (lb 6)), (31, .long (lb 5)), (29, .long (lb 4)), (27, .long (lb 3)), (25, .long (lb 2)), (23, .long (lb 1)), (21, .long (lb 0)), (19, .long (la 8)), (17, .long (la 7)), (15, .long (la 6)), (13, .long (la 5)), (11, .long (la 4)), (9, .long (la 3)), (7, .long (la 2)), (5, .long (la 1)), (3, .long (la 0)), (0, .ref o), (1, .ref a), (2, .ref b)]) hE dX1_product_262 (by decide) rfl ?_
  refine jr_lload hE dX1_product_264 0 rfl ?_
  refine jr_ldc2 (v := (536870911 : Int64)) hE dX1_product_266 (by decide +kernel) ?_
  refine jr_land hE dX1_product_269 rfl ?_
  refine jr_topl (fun v6 ev6 => ?_)
  obtain ⟨E_v6, B_v6⟩ := iv_nm ev6 (iv_and B_v5 (c := 536870911) (p := 536870912) (R := 536870911) 29 (by decide) (by decide) (by decide))
  refine jr_lstore (lv' := [(45, .long v6), (39, .long v5), (43, .long v4), (41, .long v2), (37, .long (lb 8)), (35, .long (lb 7)), (33, .long (lb 6)), (31, .long (lb 5)), (29, .long (lb 4)), (27, .long (lb 3)), (25, .long (lb 2)), (23, .long (lb 1)), (21, .long (lb 0)), (19, .long (la 8)), (17, .long (la 7)), (15, .long (la 6)), (13, .long (la 5)), (11, .long (la 4)), (9, .long (la 3)), (7, .long (la 2)), (5, .long (la 1)), (3, .long (la 0)), (0, .ref o), (1, .ref a), (2, .ref b)]) hE dX1_product_270 (by decide) rfl ?_
  refine jr_lload hE dX1_product_272 1 rfl ?_
  refine jr_bipush (v := (29 : Int32)) hE dX1_product_274 (by decide) ?_
  refine jr_lshr hE dX1_product_276 rfl ?_
  refine jr_topl (fun z3 ez3 => ?_)
  obtain ⟨E_z3, B_z3⟩ := iv_nm ez3 (iv_shr B_v5 (c := 29) (k := 29) (p := 536870912) (R := 2181202953) (by decide) (by decide) (by decide))
  refine jr_lload hE dX1_product_277 17 rfl ?_
  refine jr_lload hE dX1_product_279 4 rfl ?_
  refine jr_lmul hE dX1_product_281 rfl ?_
  refine jr_ladd hE dX1_product_282 rfl ?_
  refine jr_lload hE dX1_product_283 16 rfl ?_
  refine jr_lload hE dX1_product_285 5 rfl ?_
  refine jr_lmul hE dX1_product_287 rfl ?_
  refine jr_ladd hE dX1_product_288 rfl ?_
  refine jr_lload hE dX1_product_289 15 rfl ?_
  refine jr_lload hE dX1_product_291 6 rfl ?_
  refine jr_lmul hE dX1_product_293 rfl ?_
  refine jr_ladd hE dX1_product_294 rfl ?_
  refine jr_lload hE dX1_product_295 14 rfl ?_
  refine jr_lload hE dX1_product_297 7 rfl ?_
  refine jr_lmul hE dX1_product_299 rfl ?_
  refine jr_ladd hE dX1_product_300 rfl ?_
  refine jr_lload hE dX1_product_301 13 rfl ?_
  refine jr_lload hE dX1_product_303 8 rfl ?_
  refine jr_lmul hE dX1_product_305 rfl ?_
  refine jr_ladd hE dX1_product_306 rfl ?_
  refine jr_topl (fun v7 ev7 => ?_)
  obtain ⟨E_v7, B_v7⟩ := iv_nm ev7 (iv_add (iv_add (iv_add (iv_add (iv_add B_z3 (iv_mul (hKa.1 4 (by decide)) hKb.2 (R := 9016270494105600) (by decide)) (R := 9016272675308553) (by decide)) (iv_mul (hKa.1 5 (by decide)) (hKb.1 7 (by decide)) (R := 288247968606191616) (by decide)) (R := 297264241281500169) (by decide)) (iv_mul (hKa.1 6 (by decide)) (hKb.1 6 (by decide)) (R := 288247968606191616) (by decide)) (R := 585512209887691785) (by decide)) (iv_mul (hKa.1 7 (by decide)) (hKb.1 5 (by decide)) (R := 288247968606191616) (by decide)) (R := 873760178493883401) (by decide)) (iv_mul hKa.2 (hKb.1 4 (by decide)) (R := 9016270494105600) (by decide)) (R := 882776448987989001) (by decide))
  refine jr_lstore (lv' := [(39, .long v7), (45, .long v6), (43, .long v4), (41, .long v2), (37, .long (lb 8)), (35, .long (lb 7)), (33, .long (lb 6)), (31, .long (lb 5)), (29, .long (lb 4)), (27, .long (lb 3)), (25, .long (lb 2)), (23, .long (lb 1)), (21, .long (lb 0)), (19, .long (la 8)), (17, .long (la 7)), (15, .long (la 6)), (13, .long (la 5)), (11, .long (la 4)), (9, .long (la 3)), (7, .long (la 2)), (5, .long (la 1)), (3, .long (la 0)), (0, .ref o), (1, .ref a), (2, .ref b)]) hE dX1_product_307 (by decide) rfl ?_
  refine jr_lload hE dX1_product_309 0 rfl ?_
  refine jr_ldc2 (v := (536870911 : Int64)) hE dX1_product_311 (by decide +kernel) ?_
  refine jr_land hE dX1_product_314 rfl ?_
  refine jr_topl (fun v8 ev8 => ?_)
  obtain ⟨E_v8, B_v8⟩ := iv_nm ev8 (iv_and B_v7 (c := 536870911) (p := 536870912) (R := 536870911) 29 (by decide) (by decide) (by decide))
  refine jr_lstore (lv' := [(47, .long v8), (39, .long v7), (45, .long v6), (43, .long v4), (41, .long v2), (37, .long (lb 8)), (35, .long (lb 7)), (33, .long (lb 6)), (31, .long (lb 5)), (29, .long (lb 4)), (27, .long (lb 3)), (25, .long (lb 2)), (23, .long (lb 1)), (21, .long (lb 0)), (19, .long (la 8)), (17, .long (la 7)), (15, .long (la 6)), (13, .long (la 5)), (11, .long (la 4)), (9, .long (la 3)), (7, .long (la 2)), (5, .long (la 1)), (3, .long (la 0)), (0, .ref o), (1, .ref a), (2, .ref b)]) hE dX1_product_315 (by decide) rfl ?_
  refine jr_lload hE dX1_product_317 1 rfl ?_
  refine jr_bipush (v := (29 : Int32)) hE dX1_product_319 (by decide) ?_
  refine jr_lshr hE dX1_product_321 rfl ?_
  refine jr_topl (fun z4 ez4 => ?_)
  obtain ⟨E_z4, B_z4⟩ := iv_nm ez4 (iv_shr B_v7 (c := 29) (k := 29) (p := 536870912) (R := 1644299271) (by decide) (by decide) (by decide))
  refine jr_lload hE dX1_product_322 17 rfl ?_
  refine jr_lload hE dX1_product_324 5 rfl ?_
  refine jr_lmul hE dX1_product_326 rfl ?_
  refine jr_ladd hE dX1_product_327 rfl ?_
  refine jr_lload hE dX1_product_328 16 rfl ?_
  refine jr_lload hE dX1_product_330 6 rfl ?_
  refine jr_lmul hE dX1_product_332 rfl ?_
  refine jr_ladd hE dX1_product_333 rfl ?_
  refine jr_lload hE dX1_product_334 15 rfl ?_
  refine jr_lload hE dX1_product_336 7 rfl ?_
  refine jr_lmul hE dX1_product_338 rfl ?_
  refine jr_ladd hE dX1_product_339 rfl ?_
  refine jr_lload hE dX1_product_340 14 rfl ?_
  refine jr_lload hE dX1_product_342 8 rfl ?_
  refine jr_lmul hE dX1_product_344 rfl ?_
  refine jr_ladd hE dX1_product_345 rfl ?_
  refine jr_topl (fun v9 ev9 => ?_)
  obtain ⟨E_v9, B_v9⟩ := iv_nm ev9 (iv_add (iv_add (iv_add (iv_add B_z4 (iv_mul (hKa.1 5 (by decide)) hKb.2 (R := 9016270494105600) (by decide)) (R := 9016272138404871) (by decide)) (iv_mul (hKa.1 6 (by decide)) (hKb.1 7 (by decide)) (R := 288247968606191616) (by decide)) (R := 297264240744596487) (by decide)) (iv_mul (hKa.1 7 (by decide)) (hKb.1 6 (by decide)) (R := 288247968606191616) (by decide)) (R := 585512209350788103) (by decide)) (iv_mul hKa.2 (hKb.1 5 (by decide)) (R := 9016270494105600) (by decide)) (R := 594528479844893703) (by decide))
  refine jr_lstore (lv' := [(39, .long v9), (47, .long v8), (45, .long v6), (43, .long v4), (41, .long v2), (37, .long (lb 8)), (35, .long (lb 7)), (33, .long (lb 6)), (31, .long (lb 5)), (29, .long (lb 4)), (27, .long (lb 3)), (25, .long (lb 2)), (23, .long (lb 1)), (21, .long (lb 0)), (19, .long (la 8)), (17, .long (la 7)), (15, .long (la 6)), (13, .long (la 5)), (11, .long (la 4)), (9, .long (la 3)), (7, .long (la 2)), (5, .long (la 1)), (3, .long (la 0)), (0, .ref o), (1, .ref a), (2, .ref b)]) hE dX1_product_346 (by decide) rfl ?_
  refine jr_lload hE dX1_product_348 0 rfl ?_
  refine jr_ldc2 (v := (536870911 : Int64)) hE dX1_product_350 (by decide +kernel) ?_
  refine jr_land hE dX1_product_353 rfl ?_
  refine jr_topl (fun v10 ev10 => ?_)
  obtain ⟨E_v10, B_v10⟩ := iv_nm ev10 (iv_and B_v9 (c := 536870911) (p := 536870912) (R := 536870911) 29 (by decide) (by decide) (by decide))
  refine jr_lstore (lv' := [(49, .long v10), (39, .long v9), (47, .long v8), (45, .long v6), (43, .long v4), (41, .long v2), (37, .long (lb 8)), (35, .long (lb 7)), (33, .long (lb 6)), (31, .long (lb 5)), (29, .long (lb 4)), (27, .long (lb 3)), (25, .long (lb 2)), (23, .long (lb 1)), (21, .long (lb 0)), (19, .long (la 8)), (17, .long (la 7)), (15, .long (la 6)), (13, .long (la 5)), (11, .long (la 4)), (9, .long (la 3)), (7, .long (la 2)), (5, .long (la 1)), (3, .long (la 0)), (0, .ref o), (1, .ref a), (2, .ref b)]) hE dX1_product_354 (by decide) rfl ?_
  refine jr_lload hE dX1_product_356 1 rfl ?_
  refine jr_bipush (v := (29 : Int32)) hE dX1_product_358 (by decide) ?_
  refine jr_lshr hE dX1_product_360 rfl ?_
  refine jr_topl (fun z5 ez5 => ?_)
  obtain ⟨E_z5, B_z5⟩ := iv_nm ez5 (iv_shr B_v9 (c := 29) (k := 29) (p := 536870912) (R := 1107395590) (by decide) (by decide) (by decide))
  refine jr_lload hE dX1_product_361 17 rfl ?_
  refine jr_lload hE dX1_product_363 6 rfl ?_
  refine jr_lmul hE dX1_product_365 rfl ?_
  refine jr_ladd hE dX1_product_366 rfl ?_
  refine jr_lload hE dX1_product_367 16 rfl ?_
  refine jr_lload hE dX1_product_369 7 rfl ?_
  refine jr_lmul hE dX1_product_371 rfl ?_
  refine jr_ladd hE dX1_product_372 rfl ?_
  refine jr_lload hE dX1_product_373 15 rfl ?_
  refine jr_lload hE dX1_product_375 8 rfl ?_
  refine jr_lmul hE dX1_product_377 rfl ?_
  refine jr_ladd hE dX1_product_378 rfl ?_
  refine jr_topl (fun v11 ev11 => ?_)
  obtain ⟨E_v11, B_v11⟩ := iv_nm ev11 (iv_add (iv_add (iv_add B_z5 (iv_mul (hKa.1 6 (by decide)) hKb.2 (R := 9016270494105600) (by decide)) (R := 9016271601501190) (by decide)) (iv_mul (hKa.1 7 (by decide)) (hKb.1 7 (by decide)) (R := 288247968606191616) (by decide)) (R := 297264240207692806) (by decide)) (iv_mul hKa.2 (hKb.1 6 (by decide)) (R := 9016270494105600) (by decide)) (R := 306280510701798406) (by decide))
  refine jr_lstore (lv' := [(39, .long v11), (49, .long v10), (47, .long v8), (45, .long v6), (43, .long v4), (41, .long v2), (37, .long (lb 8)), (35, .long (lb 7)), (33, .long (lb 6)), (31, .long (lb 5)), (29, .long (lb 4)), (27, .long (lb 3)), (25, .long (lb 2)), (23, .long (lb 1)), (21, .long (lb 0)), (19, .long (la 8)), (17, .long (la 7)), (15, .long (la 6)), (13, .long (la 5)), (11, .long (la 4)), (9, .long (la 3)), (7, .long (la 2)), (5, .long (la 1)), (3, .long (la 0)), (0, .ref o), (1, .ref a), (2, .ref b)]) hE dX1_product_379 (by decide) rfl ?_
  refine jr_lload hE dX1_product_381 0 rfl ?_
  refine jr_ldc2 (v := (536870911 : Int64)) hE dX1_product_383 (by decide +kernel) ?_
  refine jr_land hE dX1_product_386 rfl ?_
  refine jr_topl (fun v12 ev12 => ?_)
  obtain ⟨E_v12, B_v12⟩ := iv_nm ev12 (iv_and B_v11 (c := 536870911) (p := 536870912) (R := 536870911) 29 (by decide) (by decide) (by decide))
  refine jr_lstore (lv' := [(51, .long v12), (39, .long v11), (49, .long v10), (47, .long v8), (45, .long v6), (43, .long v4), (41, .long v2), (37, .long (lb 8)), (35, .long (lb 7)), (33, .long (lb 6)), (31, .long (lb 5)), (29, .long (lb 4)), (27, .long (lb 3)), (25, .long (lb 2)), (23, .long (lb 1)), (21, .long (lb 0)), (19, .long (la 8)), (17, .long (la 7)), (15, .long (la 6)), (13, .long (la 5)), (11, .long (la 4)), (9, .long (la 3)), (7, .long (la 2)), (5, .long (la 1)), (3, .long (la 0)), (0, .ref o), (1, .ref a), (2, .ref b)]) hE dX1_product_387 (by decide) rfl ?_
  refine jr_lload hE dX1_product_389 1 rfl ?_
  refine jr_bipush (v := (29 : Int32)) hE dX1_product_391 (by decide) ?_
  refine jr_lshr hE dX1_product_393 rfl ?_
  refine jr_topl (fun z6 ez6 => ?_)
  obtain ⟨E_z6, B_z6⟩ := iv_nm ez6 (iv_shr B_v11 (c := 29) (k := 29) (p := 536870912) (R := 570491908) (by decide) (by decide) (by decide))
  refine jr_lload hE dX1_product_394 17 rfl ?_
  refine jr_lload hE dX1_product_396 7 rfl ?_
  refine jr_lmul hE dX1_product_398 rfl ?_
  refine jr_ladd hE dX1_product_399 rfl ?_
  refine jr_lload hE dX1_product_400 16 rfl ?_
  refine jr_lload hE dX1_product_402 8 rfl ?_
  refine jr_lmul hE dX1_product_404 rfl ?_
  refine jr_ladd hE dX1_product_405 rfl ?_
  refine jr_topl (fun v13 ev13 => ?_)
  obtain ⟨E_v13, B_v13⟩ := iv_nm ev13 (iv_add (iv_add B_z6 (iv_mul (hKa.1 7 (by decide)) hKb.2 (R := 9016270494105600) (by decide)) (R := 9016271064597508) (by decide)) (iv_mul hKa.2 (hKb.1 7 (by decide)) (R := 9016270494105600) (by decide)) (R := 18032541558703108) (by decide))
  refine jr_lstore (lv' := [(39, .long v13), (51, .long v12), (49, .long v10), (47, .long v8), (45, .long v6), (43, .long v4), (41, .long v2), (37, .long (lb 8)), (35, .long (lb 7)), (33, .long (lb 6)), (31, .long (lb 5)), (29, .long (lb 4)), (27, .long (lb 3)), (25, .long (lb 2)), (23, .long (lb 1)), (21, .long (lb 0)), (19, .long (la 8)), (17, .long (la 7)), (15, .long (la 6)), (13, .long (la 5)), (11, .long (la 4)), (9, .long (la 3)), (7, .long (la 2)), (5, .long (la 1)), (3, .long (la 0)), (0, .ref o), (1, .ref a), (2, .ref b)]) hE dX1_product_406 (by decide) rfl ?_
  refine jr_lload hE dX1_product_408 0 rfl ?_
  refine jr_ldc2 (v := (536870911 : Int64)) hE dX1_product_410 (by decide +kernel) ?_
  refine jr_land hE dX1_product_413 rfl ?_
  refine jr_topl (fun v14 ev14 => ?_)
  obtain ⟨E_v14, B_v14⟩ := iv_nm ev14 (iv_and B_v13 (c := 536870911) (p := 536870912) (R := 536870911) 29 (by decide) (by decide) (by decide))
  refine jr_lstore (lv' := [(53, .long v14), (39, .long v13), (51, .long v12), (49, .long v10), (47, .long v8), (45, .long v6), (43, .long v4), (41, .long v2), (37, .long (lb 8)), (35, .long (lb 7)), (33, .long (lb 6)), (31, .long (lb 5)), (29, .long (lb 4)), (27, .long (lb 3)), (25, .long (lb 2)), (23, .long (lb 1)), (21, .long (lb 0)), (19, .long (la 8)), (17, .long (la 7)), (15, .long (la 6)), (13, .long (la 5)), (11, .long (la 4)), (9, .long (la 3)), (7, .long (la 2)), (5, .long (la 1)), (3, .long (la 0)), (0, .ref o), (1, .ref a), (2, .ref b)]) hE dX1_product_414 (by decide) rfl ?_
  refine jr_lload hE dX1_product_416 1 rfl ?_
  refine jr_bipush (v := (29 : Int32)) hE dX1_product_418 (by decide) ?_
  refine jr_lshr hE dX1_product_420 rfl ?_
  refine jr_topl (fun z7 ez7 => ?_)
  obtain ⟨E_z7, B_z7⟩ := iv_nm ez7 (iv_shr B_v13 (c := 29) (k := 29) (p := 536870912) (R := 33588227) (by decide) (by decide) (by decide))
  refine jr_lload hE dX1_product_421 17 rfl ?_
  refine jr_lload hE dX1_product_423 8 rfl ?_
  refine jr_lmul hE dX1_product_425 rfl ?_
  refine jr_ladd hE dX1_product_426 rfl ?_
  refine jr_topl (fun v15 ev15 => ?_)
  obtain ⟨E_v15, B_v15⟩ := iv_nm ev15 (iv_add B_z7 (iv_mul hKa.2 hKb.2 (R := 282025000960000) (by decide)) (R := 282025034548227) (by decide))
  refine jr_lstore (lv' := [(39, .long v15), (53, .long v14), (51, .long v12), (49, .long v10), (47, .long v8), (45, .long v6), (43, .long v4), (41, .long v2), (37, .long (lb 8)), (35, .long (lb 7)), (33, .long (lb 6)), (31, .long (lb 5)), (29, .long (lb 4)), (27, .long (lb 3)), (25, .long (lb 2)), (23, .long (lb 1)), (21, .long (lb 0)), (19, .long (la 8)), (17, .long (la 7)), (15, .long (la 6)), (13, .long (la 5)), (11, .long (la 4)), (9, .long (la 3)), (7, .long (la 2)), (5, .long (la 1)), (3, .long (la 0)), (0, .ref o), (1, .ref a), (2, .ref b)]) hE dX1_product_427 (by decide) rfl ?_
  refine jr_lload hE dX1_product_429 0 rfl ?_
  refine jr_ldc2 (v := (536870911 : Int64)) hE dX1_product_431 (by decide +kernel) ?_
  refine jr_land hE dX1_product_434 rfl ?_
  refine jr_topl (fun v16 ev16 => ?_)
  obtain ⟨E_v16, B_v16⟩ := iv_nm ev16 (iv_and B_v15 (c := 536870911) (p := 536870912) (R := 536870911) 29 (by decide) (by decide) (by decide))
  refine jr_lstore (lv' := [(55, .long v16), (39, .long v15), (53, .long v14), (51, .long v12), (49, .long v10), (47, .long v8), (45, .long v6), (43, .long v4), (41, .long v2), (37, .long (lb 8)), (35, .long (lb 7)), (33, .long (lb 6)), (31, .long (lb 5)), (29, .long (lb 4)), (27, .long (lb 3)), (25, .long (lb 2)), (23, .long (lb 1)), (21, .long (lb 0)), (19, .long (la 8)), (17, .long (la 7)), (15, .long (la 6)), (13, .long (la 5)), (11, .long (la 4)), (9, .long (la 3)), (7, .long (la 2)), (5, .long (la 1)), (3, .long (la 0)), (0, .ref o), (1, .ref a), (2, .ref b)]) hE dX1_product_435 (by decide) rfl ?_
  refine jr_lload hE dX1_product_437 1 rfl ?_
  refine jr_bipush (v := (29 : Int32)) hE dX1_product_439 (by decide) ?_
  refine jr_lshr hE dX1_product_441 rfl ?_
  refine jr_topl (fun z8 ez8 => ?_)
  obtain ⟨E_z8, B_z8⟩ := iv_nm ez8 (iv_shr B_v15 (c := 29) (k := 29) (p := 536870912) (R := 525313) (by decide) (by decide) (by decide))
  refine jr_topl (fun v17 ev17 => ?_)
  obtain ⟨E_v17, B_v17⟩ := iv_nm ev17 B_z8
  refine jr_lstore (lv' := [(57, .long v17), (55, .long v16), (39, .long v15), (53, .long v14), (51, .long v12), (49, .long v10), (47, .long v8), (45, .long v6), (43, .long v4), (41, .long v2), (37, .long (lb 8)), (35, .long (lb 7)), (33, .long (lb 6)), (31, .long (lb 5)), (29, .long (lb 4)), (27, .long (lb 3)), (25, .long (lb 2)), (23, .long (lb 1)), (21, .long (lb 0)), (19, .long (la 8)), (17, .long (la 7)), (15, .long (la 6)), (13, .long (la 5)), (11, .long (la 4)), (9, .long (la 3)), (7, .long (la 2)), (5, .long (la 1)), (3, .long (la 0)), (0, .ref o), (1, .ref a), (2, .ref b)]) hE dX1_product_442 (by decide) rfl ?_
  refine jr_lload hE dX1_product_444 9 rfl ?_
  refine jr_lload hE dX1_product_446 0 rfl ?_
  refine jr_bipush (v := (8 : Int32)) hE dX1_product_448 (by decide) ?_
  refine jr_lshl hE dX1_product_450 rfl ?_
  refine jr_topl (fun z9 ez9 => ?_)
  obtain ⟨E_z9, B_z9⟩ := iv_nm ez9 (iv_shl B_v17 (c := 8) (k := 8) (p := 256) (R := 134480128) (by decide) (by decide) (by decide))
  refine jr_ladd hE dX1_product_451 rfl ?_
  refine jr_topl (fun v18 ev18 => ?_)
  obtain ⟨E_v18, B_v18⟩ := iv_nm ev18 (iv_add B_v2 B_z9 (R := 671351039) (by decide))
  refine jr_lstore (lv' := [(41, .long v18), (57, .long v17), (55, .long v16), (39, .long v15), (53, .long v14), (51, .long v12), (49, .long v10), (47, .long v8), (45, .long v6), (43, .long v4), (37, .long (lb 8)), (35, .long (lb 7)), (33, .long (lb 6)), (31, .long (lb 5)), (29, .long (lb 4)), (27, .long (lb 3)), (25, .long (lb 2)), (23, .long (lb 1)), (21, .long (lb 0)), (19, .long (la 8)), (17, .long (la 7)), (15, .long (la 6)), (13, .long (la 5)), (11, .long (la 4)), (9, .long (la 3)), (7, .long (la 2)), (5, .long (la 1)), (3, .long (la 0)), (0, .ref o), (1, .ref a), (2, .ref b)]) hE dX1_product_452 (by decide) rfl ?_
  refine jr_lload_n hE dX1_product_454 27 rfl ?_
  refine jr_lload hE dX1_product_455 18 rfl ?_
  refine jr_lmul hE dX1_product_457 rfl ?_
  refine jr_ldc2 (v := (31264 : Int64)) hE dX1_product_458 (by decide +kernel) ?_
  refine jr_lload hE dX1_product_461 0 rfl ?_
  refine jr_lmul hE dX1_product_463 rfl ?_
  refine jr_ladd hE dX1_product_464 rfl ?_
  refine jr_topl (fun v19 ev19 => ?_)
  obtain ⟨E_v19, B_v19⟩ := iv_nm ev19 (iv_add (iv_mul (hKa.1 0 (by decide)) (hKb.1 0 (by decide)) (R := 288247968606191616) (by decide)) (iv_mul (iv_lit 31264 (by decide)) B_v18 (R := 20989118883296) (by decide)) (R := 288268957725074912) (by decide))
  refine jr_lstore (lv' := [(39, .long v19), (41, .long v18), (57, .long v17), (55, .long v16), (53, .long v14), (51, .long v12), (49, .long v10), (47, .long v8), (45, .long v6), (43, .long v4), (37, .long (lb 8)), (35, .long (lb 7)), (33, .long (lb 6)), (31, .long (lb 5)), (29, .long (lb 4)), (27, .long (lb 3)), (25, .long (lb 2)), (23, .long (lb 1)), (21, .long (lb 0)), (19, .long (la 8)), (17, .long (la 7)), (15, .long (la 6)), (13, .long (la 5)), (11, .long (la 4)), (9, .long (la 3)), (7, .long (la 2)), (5, .long (la 1)), (3, .long (la 0)), (0, .ref o), (1, .ref a), (2, .ref b)]) hE dX1_product_465 (by decide) rfl ?_
  refine jr_aload_n hE dX1_product_467 28 rfl ?_
  refine jr_lload hE dX1_product_468 0 rfl ?_
  refine jr_ldc2 (v := (536870911 : Int64)) hE dX1_product_470 (by decide +kernel) ?_
  refine jr_land hE dX1_product_473 rfl ?_
  refine jr_topl (fun v20 ev20 => ?_)
  obtain ⟨E_v20, B_v20⟩ := iv_nm ev20 (iv_and B_v19 (c := 536870911) (p := 536870912) (R := 536870911) 29 (by decide) (by decide) (by decide))
  refine jr_put (ty := .long) hE dX1_product_474 f7 ho rfl (by decide +kernel) rfl rfl (Nat.le_of_ble_eq_true rfl) (fun F10 g11 u12 => ?_)
  have g11 : jF L F10 o (.inr (1, [.long v20, .long (lo 1), .long (lo 2), .long (lo 3), .long (lo 4), .long (lo 5), .long (lo 6), .long (lo 7), .long (lo 8)])) := g11
  refine jr_lload hE dX1_product_477 0 rfl ?_
  refine jr_bipush (v := (29 : Int32)) hE dX1_product_479 (by decide) ?_
  refine jr_lshr hE dX1_product_481 rfl ?_
  refine jr_topl (fun z13 ez13 => ?_)
  obtain ⟨E_z13, B_z13⟩ := iv_nm ez13 (iv_shr B_v19 (c := 29) (k := 29) (p := 536870912) (R := 536942776) (by decide) (by decide) (by decide))
  refine jr_lload_n hE dX1_product_482 27 rfl ?_
  refine jr_lload hE dX1_product_483 17 rfl ?_
  refine jr_lmul hE dX1_product_485 rfl ?_
  refine jr_ladd hE dX1_product_486 rfl ?_
  refine jr_lload hE dX1_product_487 26 rfl ?_
  refine jr_lload hE dX1_product_489 18 rfl ?_
  refine jr_lmul hE dX1_product_491 rfl ?_
  refine jr_ladd hE dX1_product_492 rfl ?_
  refine jr_ldc2 (v := (31264 : Int64)) hE dX1_product_493 (by decide +kernel) ?_
  refine jr_lload hE dX1_product_496 9 rfl ?_
  refine jr_lmul hE dX1_product_498 rfl ?_
  refine jr_ladd hE dX1_product_499 rfl ?_
  refine jr_lload hE dX1_product_500 1 rfl ?_
  refine jr_bipush (v := (8 : Int32)) hE dX1_product_502 (by decide) ?_
  refine jr_lshl hE dX1_product_504 rfl ?_
  refine jr_topl (fun z14 ez14 => ?_)
  obtain ⟨E_z14, B_z14⟩ := iv_nm ez14 (iv_shl B_v18 (c := 8) (k := 8) (p := 256) (R := 171865865984) (by decide) (by decide) (by decide))
  refine jr_ladd hE dX1_product_505 rfl ?_
  refine jr_topl (fun v21 ev21 => ?_)
  obtain ⟨E_v21, B_v21⟩ := iv_nm ev21 (iv_add (iv_add (iv_add (iv_add B_z13 (iv_mul (hKa.1 0 (by decide)) (hKb.1 1 (by decide)) (R := 288247968606191616) (by decide)) (R := 288247969143134392) (by decide)) (iv_mul (hKa.1 1 (by decide)) (hKb.1 0 (by decide)) (R := 288247968606191616) (by decide)) (R := 576495937749326008) (by decide)) (iv_mul (iv_lit 31264 (by decide)) B_v4 (R := 16784732161504) (by decide)) (R := 576512722481487512) (by decide)) B_z14 (R := 576512894347353496) (by decide))
  refine jr_lstore (lv' := [(39, .long v21), (41, .long v18), (57, .long v17), (55, .long v16), (53, .long v14), (51, .long v12), (49, .long v10), (47, .long v8), (45, .long v6), (43, .long v4), (37, .long (lb 8)), (35, .long (lb 7)), (33, .long (lb 6)), (31, .long (lb 5)), (29, .long (lb 4)), (27, .long (lb 3)), (25, .long (lb 2)), (23, .long (lb 1)), (21, .long (lb 0)), (19, .long (la 8)), (17, .long (la 7)), (15, .long (la 6)), (13, .long (la 5)), (11, .long (la 4)), (9, .long (la 3)), (7, .long (la 2)), (5, .long (la 1)), (3, .long (la 0)), (0, .ref o), (1, .ref a), (2, .ref b)]) hE dX1_product_506 (by decide) rfl ?_
  refine jr_aload_n hE dX1_product_508 28 rfl ?_
  refine jr_lload hE dX1_product_509 0 rfl ?_
  refine jr_ldc2 (v := (536870911 : Int64)) hE dX1_product_511 (by decide +kernel) ?_
  refine jr_land hE dX1_product_514 rfl ?_
  refine jr_topl (fun v22 ev22 => ?_)
  obtain ⟨E_v22, B_v22⟩ := iv_nm ev22 (iv_and B_v21 (c := 536870911) (p := 536870912) (R := 536870911) 29 (by decide) (by decide) (by decide))
  refine jr_put (ty := .long) hE dX1_product_515 f13 g11 rfl (by decide +kernel) rfl rfl (Nat.le_of_ble_eq_true rfl) (fun F15 g16 u17 => ?_)
  have g16 : jF L F15 o (.inr (1, [.long v20, .long v22, .long (lo 2), .long (lo 3), .long (lo 4), .long (lo 5), .long (lo 6), .long (lo 7), .long (lo 8)])) := g16
  refine jr_lload hE dX1_product_518 0 rfl ?_
  refine jr_bipush (v := (29 : Int32)) hE dX1_product_520 (by decide) ?_
  refine jr_lshr hE dX1_product_522 rfl ?_
  refine jr_topl (fun z18 ez18 => ?_)
  obtain ⟨E_z18, B_z18⟩ := iv_nm ez18 (iv_shr B_v21 (c := 29) (k := 29) (p := 536870912) (R := 1073838947) (by decide) (by decide) (by decide))
  refine jr_lload_n hE dX1_product_523 27 rfl ?_
  refine jr_lload hE dX1_product_524 16 rfl ?_
  refine jr_lmul hE dX1_product_526 rfl ?_
  refine jr_ladd hE dX1_product_527 rfl ?_
  refine jr_lload hE dX1_product_528 26 rfl ?_
  refine jr_lload hE dX1_product_530 17 rfl ?_
  refine jr_lmul hE dX1_product_532 rfl ?_
  refine jr_ladd hE dX1_product_533 rfl ?_
  refine jr_lload hE dX1_product_534 25 rfl ?_
  refine jr_lload hE dX1_product_536 18 rfl ?_
  refine jr_lmul hE dX1_product_538 rfl ?_
  refine jr_ladd hE dX1_product_539 rfl ?_
  refine jr_ldc2 (v := (31264 : Int64)) hE dX1_product_540 (by decide +kernel) ?_
  refine jr_lload hE dX1_product_543 8 rfl ?_
  refine jr_lmul hE dX1_product_545 rfl ?_
  refine jr_ladd hE dX1_product_546 rfl ?_
  refine jr_lload hE dX1_product_547 9 rfl ?_
  refine jr_bipush (v := (8 : Int32)) hE dX1_product_549 (by decide) ?_
  refine jr_lshl hE dX1_product_551 rfl ?_
  refine jr_topl (fun z19 ez19 => ?_)
  obtain ⟨E_z19, B_z19⟩ := iv_nm ez19 (iv_shl B_v4 (c := 8) (k := 8) (p := 256) (R := 137438953216) (by decide) (by decide) (by decide))
  refine jr_ladd hE dX1_product_552 rfl ?_
  refine jr_topl (fun v23 ev23 => ?_)
  obtain ⟨E_v23, B_v23⟩ := iv_nm ev23 (iv_add (iv_add (iv_add (iv_add (iv_add B_z18 (iv_mul (hKa.1 0 (by decide)) (hKb.1 2 (by decide)) (R := 288247968606191616) (by decide)) (R := 288247969680030563) (by decide)) (iv_mul (hKa.1 1 (by decide)) (hKb.1 1 (by decide)) (R := 288247968606191616) (by decide)) (R := 576495938286222179) (by decide)) (iv_mul (hKa.1 2 (by decide)) (hKb.1 0 (by decide)) (R := 288247968606191616) (by decide)) (R := 864743906892413795) (by decide)) (iv_mul (iv_lit 31264 (by decide)) B_v6 (R := 16784732161504) (by decide)) (R := 864760691624575299) (by decide)) B_z19 (R := 864760829063528515) (by decide))
  refine jr_lstore (lv' := [(39, .long v23), (41, .long v18), (57, .long v17), (55, .long v16), (53, .long v14), (51, .long v12), (49, .long v10), (47, .long v8), (45, .long v6), (43, .long v4), (37, .long (lb 8)), (35, .long (lb 7)), (33, .long (lb 6)), (31, .long (lb 5)), (29, .long (lb 4)), (27, .long (lb 3)), (25, .long (lb 2)), (23, .long (lb 1)), (21, .long (lb 0)), (19, .long (la 8)), (17, .long (la 7)), (15, .long (la 6)), (13, .long (la 5)), (11, .long (la 4)), (9, .long (la 3)), (7, .long (la 2)), (5, .long (la 1)), (3, .long (la 0)), (0, .ref o), (1, .ref a), (2, .ref b)]) hE dX1_product_553 (by decide) rfl ?_
  refine jr_aload_n hE dX1_product_555 28 rfl ?_
  refine jr_lload hE dX1_product_556 0 rfl ?_
  refine jr_ldc2 (v := (536870911 : Int64)) hE dX1_product_558 (by decide +kernel) ?_
  refine jr_land hE dX1_product_561 rfl ?_
  refine jr_topl (fun v24 ev24 => ?_)
  obtain ⟨E_v24, B_v24⟩ := iv_nm ev24 (iv_and B_v23 (c := 536870911) (p := 536870912) (R := 536870911) 29 (by decide) (by decide) (by decide))
  refine jr_put (ty := .long) hE dX1_product_562 f16 g16 rfl (by decide +kernel) rfl rfl (Nat.le_of_ble_eq_true rfl) (fun F20 g21 u22 => ?_)
  have g21 : jF L F20 o (.inr (1, [.long v20, .long v22, .long v24, .long (lo 3), .long (lo 4), .long (lo 5), .long (lo 6), .long (lo 7), .long (lo 8)])) := g21
  refine jr_lload hE dX1_product_565 0 rfl ?_
  refine jr_bipush (v := (29 : Int32)) hE dX1_product_567 (by decide) ?_
  refine jr_lshr hE dX1_product_569 rfl ?_
  refine jr_topl (fun z23 ez23 => ?_)
  obtain ⟨E_z23, B_z23⟩ := iv_nm ez23 (iv_shr B_v23 (c := 29) (k := 29) (p := 536870912) (R := 1610742564) (by decide) (by decide) (by decide))
  refine jr_lload_n hE dX1_product_570 27 rfl ?_
  refine jr_lload hE dX1_product_571 15 rfl ?_
  refine jr_lmul hE dX1_product_573 rfl ?_
  refine jr_ladd hE dX1_product_574 rfl ?_
  refine jr_lload hE dX1_product_575 26 rfl ?_
  refine jr_lload hE dX1_product_577 16 rfl ?_
  refine jr_lmul hE dX1_product_579 rfl ?_
  refine jr_ladd hE dX1_product_580 rfl ?_
  refine jr_lload hE dX1_product_581 25 rfl ?_
  refine jr_lload hE dX1_product_583 17 rfl ?_
  refine jr_lmul hE dX1_product_585 rfl ?_
  refine jr_ladd hE dX1_product_586 rfl ?_
  refine jr_lload hE dX1_product_587 24 rfl ?_
  refine jr_lload hE dX1_product_589 18 rfl ?_
  refine jr_lmul hE dX1_product_591 rfl ?_
  refine jr_ladd hE dX1_product_592 rfl ?_
  refine jr_ldc2 (v := (31264 : Int64)) hE dX1_product_593 (by decide +kernel) ?_
  refine jr_lload hE dX1_product_596 7 rfl ?_
  refine jr_lmul hE dX1_product_598 rfl ?_
  refine jr_ladd hE dX1_product_599 rfl ?_
  refine jr_lload hE dX1_product_600 8 rfl ?_
  refine jr_bipush (v := (8 : Int32)) hE dX1_product_602 (by decide) ?_
  refine jr_lshl hE dX1_product_604 rfl ?_
  refine jr_topl (fun z24 ez24 => ?_)
  obtain ⟨E_z24, B_z24⟩ := iv_nm ez24 (iv_shl B_v6 (c := 8) (k := 8) (p := 256) (R := 137438953216) (by decide) (by decide) (by decide))
  refine jr_ladd hE dX1_product_605 rfl ?_
  refine jr_topl (fun v25 ev25 => ?_)
  obtain ⟨E_v25, B_v25⟩ := iv_nm ev25 (iv_add (iv_add (iv_add (iv_add (iv_add (iv_add B_z23 (iv_mul (hKa.1 0 (by decide)) (hKb.1 3 (by decide)) (R := 288247968606191616) (by decide)) (R := 288247970216934180) (by decide)) (iv_mul (hKa.1 1 (by decide)) (hKb.1 2 (by decide)) (R := 288247968606191616) (by decide)) (R := 576495938823125796) (by decide)) (iv_mul (hKa.1 2 (by decide)) (hKb.1 1 (by decide)) (R := 288247968606191616) (by decide)) (R := 864743907429317412) (by decide)) (iv_mul (hKa.1 3 (by decide)) (hKb.1 0 (by decide)) (R := 288247968606191616) (by decide)) (R := 1152991876035509028) (by decide)) (iv_mul (iv_lit 31264 (by decide)) B_v8 (R := 16784732161504) (by decide)) (R := 1153008660767670532) (by decide)) B_z24 (R := 1153008798206623748) (by decide))
  refine jr_lstore (lv' := [(39, .long v25), (41, .long v18), (57, .long v17), (55, .long v16), (53, .long v14), (51, .long v12), (49, .long v10), (47, .long v8), (45, .long v6), (43, .long v4), (37, .long (lb 8)), (35, .long (lb 7)), (33, .long (lb 6)), (31, .long (lb 5)), (29, .long (lb 4)), (27, .long (lb 3)), (25, .long (lb 2)), (23, .long (lb 1)), (21, .long (lb 0)), (19, .long (la 8)), (17, .long (la 7)), (15, .long (la 6)), (13, .long (la 5)), (11, .long (la 4)), (9, .long (la 3)), (7, .long (la 2)), (5, .long (la 1)), (3, .long (la 0)), (0, .ref o), (1, .ref a), (2, .ref b)]) hE dX1_product_606 (by decide) rfl ?_
  refine jr_aload_n hE dX1_product_608 28 rfl ?_
  refine jr_lload hE dX1_product_609 0 rfl ?_
  refine jr_ldc2 (v := (536870911 : Int64)) hE dX1_product_611 (by decide +kernel) ?_
  refine jr_land hE dX1_product_614 rfl ?_
  refine jr_topl (fun v26 ev26 => ?_)
  obtain ⟨E_v26, B_v26⟩ := iv_nm ev26 (iv_and B_v25 (c := 536870911) (p := 536870912) (R := 536870911) 29 (by decide) (by decide) (by decide))
  refine jr_put (ty := .long) hE dX1_product_615 f19 g21 rfl (by decide +kernel) rfl rfl (Nat.le_of_ble_eq_true rfl) (fun F25 g26 u27 => ?_)
  have g26 : jF L F25 o (.inr (1, [.long v20, .long v22, .long v24, .long v26, .long (lo 4), .long (lo 5), .long (lo 6), .long (lo 7), .long (lo 8)])) := g26
  refine jr_lload hE dX1_product_618 0 rfl ?_
  refine jr_bipush (v := (29 : Int32)) hE dX1_product_620 (by decide) ?_
  refine jr_lshr hE dX1_product_622 rfl ?_
  refine jr_topl (fun z28 ez28 => ?_)
  obtain ⟨E_z28, B_z28⟩ := iv_nm ez28 (iv_shr B_v25 (c := 29) (k := 29) (p := 536870912) (R := 2147646246) (by decide) (by decide) (by decide))
  refine jr_lload_n hE dX1_product_623 27 rfl ?_
  refine jr_lload hE dX1_product_624 14 rfl ?_
  refine jr_lmul hE dX1_product_626 rfl ?_
  refine jr_ladd hE dX1_product_627 rfl ?_
  refine jr_lload hE dX1_product_628 26 rfl ?_
  refine jr_lload hE dX1_product_630 15 rfl ?_
  refine jr_lmul hE dX1_product_632 rfl ?_
  refine jr_ladd hE dX1_product_633 rfl ?_
  refine jr_lload hE dX1_product_634 25 rfl ?_
  refine jr_lload hE dX1_product_636 16 rfl ?_
  refine jr_lmul hE dX1_product_638 rfl ?_
  refine jr_ladd hE dX1_product_639 rfl ?_
  refine jr_lload hE dX1_product_640 24 rfl ?_
  refine jr_lload hE dX1_product_642 17 rfl ?_
  refine jr_lmul hE dX1_product_644 rfl ?_
  refine jr_ladd hE dX1_product_645 rfl ?_
  refine jr_lload hE dX1_product_646 23 rfl ?_
  refine jr_lload hE dX1_product_648 18 rfl ?_
  refine jr_lmul hE dX1_product_650 rfl ?_
  refine jr_ladd hE dX1_product_651 rfl ?_
  refine jr_ldc2 (v := (31264 : Int64)) hE dX1_product_652 (by decide +kernel) ?_
  refine jr_lload hE dX1_product_655 6 rfl ?_
  refine jr_lmul hE dX1_product_657 rfl ?_
  refine jr_ladd hE dX1_product_658 rfl ?_
  refine jr_lload hE dX1_product_659 7 rfl ?_
  refine jr_bipush (v := (8 : Int32)) hE dX1_product_661 (by decide) ?_
  refine jr_lshl hE dX1_product_663 rfl ?_
  refine jr_topl (fun z29 ez29 => ?_)
  obtain ⟨E_z29, B_z29⟩ := iv_nm ez29 (iv_shl B_v8 (c := 8) (k := 8) (p := 256) (R := 137438953216) (by decide) (by decide) (by decide))
  refine jr_ladd hE dX1_product_664 rfl ?_
  refine jr_topl (fun v27 ev27 => ?_)
  obtain ⟨E_v27, B_v27⟩ := iv_nm ev27 (iv_add (iv_add (iv_add (iv_add (iv_add (iv_add (iv_add B_z28 (iv_mul (hKa.1 0 (by decide)) (hKb.1 4 (by decide)) (R := 288247968606191616) (by decide)) (R := 288247970753837862) (by decide)) (iv_mul (hKa.1 1 (by decide)) (hKb.1 3 (by decide)) (R := 288247968606191616) (by decide)) (R := 576495939360029478) (by decide)) (iv_mul (hKa.1 2 (by decide)) (hKb.1 2 (by decide)) (R := 288247968606191616) (by decide)) (R := 864743907966221094) (by decide)) (iv_mul (hKa.1 3 (by decide)) (hKb.1 1 (by decide)) (R := 288247968606191616) (by decide)) (R := 1152991876572412710) (by decide)) (iv_mul (hKa.1 4 (by decide)) (hKb.1 0 (by decide)) (R := 288247968606191616) (by decide)) (R := 1441239845178604326) (by decide)) (iv_mul (iv_lit 31264 (by decide)) B_v10 (R := 16784732161504) (by decide)) (R := 1441256629910765830) (by decide)) B_z29 (R := 1441256767349719046) (by decide))
  refine jr_lstore (lv' := [(39, .long v27), (41, .long v18), (57, .long v17), (55, .long v16), (53, .long v14), (51, .long v12), (49, .long v10), (47, .long v8), (45, .long v6), (43, .long v4), (37, .long (lb 8)), (35, .long (lb 7)), (33, .long (lb 6)), (31, .long (lb 5)), (29, .long (lb 4)), (27, .long (lb 3)), (25, .long (lb 2)), (23, .long (lb 1)), (21, .long (lb 0)), (19, .long (la 8)), (17, .long (la 7)), (15, .long (la 6)), (13, .long (la 5)), (11, .long (la 4)), (9, .long (la 3)), (7, .long (la 2)), (5, .long (la 1)), (3, .long (la 0)), (0, .ref o), (1, .ref a), (2, .ref b)]) hE dX1_product_665 (by decide) rfl ?_
  refine jr_aload_n hE dX1_product_667 28 rfl ?_
  refine jr_lload hE dX1_product_668 0 rfl ?_
  refine jr_ldc2 (v := (536870911 : Int64)) hE dX1_product_670 (by decide +kernel) ?_
  refine jr_land hE dX1_product_673 rfl ?_
  refine jr_topl (fun v28 ev28 => ?_)
  obtain ⟨E_v28, B_v28⟩ := iv_nm ev28 (iv_and B_v27 (c := 536870911) (p := 536870912) (R := 536870911) 29 (by decide) (by decide) (by decide))
  refine jr_put (ty := .long) hE dX1_product_674 f22 g26 rfl (by decide +kernel) rfl rfl (Nat.le_of_ble_eq_true rfl) (fun F30 g31 u32 => ?_)
  have g31 : jF L F30 o (.inr (1, [.long v20, .long v22, .long v24, .long v26, .long v28, .long (lo 5), .long (lo 6), .long (lo 7), .long (lo 8)])) := g31
  refine jr_lload hE dX1_product_677 0 rfl ?_
  refine jr_bipush (v := (29 : Int32)) hE dX1_product_679 (by decide) ?_
  refine jr_lshr hE dX1_product_681 rfl ?_
  refine jr_topl (fun z33 ez33 => ?_)
  obtain ⟨E_z33, B_z33⟩ := iv_nm ez33 (iv_shr B_v27 (c := 29) (k := 29) (p := 536870912) (R := 2684549927) (by decide) (by decide) (by decide))
  refine jr_lload_n hE dX1_product_682 27 rfl ?_
  refine jr_lload hE dX1_product_683 13 rfl ?_
  refine jr_lmul hE dX1_product_685 rfl ?_
  refine jr_ladd hE dX1_product_686 rfl ?_
  refine jr_lload hE dX1_product_687 26 rfl ?_
  refine jr_lload hE dX1_product_689 14 rfl ?_
  refine jr_lmul hE dX1_product_691 rfl ?_
  refine jr_ladd hE dX1_product_692 rfl ?_
  refine jr_lload hE dX1_product_693 25 rfl ?_
  refine jr_lload hE dX1_product_695 15 rfl ?_
  refine jr_lmul hE dX1_product_697 rfl ?_
  refine jr_ladd hE dX1_product_698 rfl ?_
  refine jr_lload hE dX1_product_699 24 rfl ?_
  refine jr_lload hE dX1_product_701 16 rfl ?_
  refine jr_lmul hE dX1_product_703 rfl ?_
  refine jr_ladd hE dX1_product_704 rfl ?_
  refine jr_lload hE dX1_product_705 23 rfl ?_
  refine jr_lload hE dX1_product_707 17 rfl ?_
  refine jr_lmul hE dX1_product_709 rfl ?_
  refine jr_ladd hE dX1_product_710 rfl ?_
  refine jr_lload hE dX1_product_711 22 rfl ?_
  refine jr_lload hE dX1_product_713 18 rfl ?_
  refine jr_lmul hE dX1_product_715 rfl ?_
  refine jr_ladd hE dX1_product_716 rfl ?_
  refine jr_ldc2 (v := (31264 : Int64)) hE dX1_product_717 (by decide +kernel) ?_
  refine jr_lload hE dX1_product_720 5 rfl ?_
  refine jr_lmul hE dX1_product_722 rfl ?_
  refine jr_ladd hE dX1_product_723 rfl ?_
  refine jr_lload hE dX1_product_724 6 rfl ?_
  refine jr_bipush (v := (8 : Int32)) hE dX1_product_726 (by decide) ?_
  refine jr_lshl hE dX1_product_728 rfl ?_
  refine jr_topl (fun z34 ez34 => ?_)
  obtain ⟨E_z34, B_z34⟩ := iv_nm ez34 (iv_shl B_v10 (c := 8) (k := 8) (p := 256) (R := 137438953216) (by decide) (by decide) (by decide))
  refine jr_ladd hE dX1_product_729 rfl ?_
  refine jr_topl (fun v29 ev29 => ?_)
  obtain ⟨E_v29, B_v29⟩ := iv_nm ev29 (iv_add (iv_add (iv_add (iv_add (iv_add (iv_add (iv_add (iv_add B_z33 (iv_mul (hKa.1 0 (by decide)) (hKb.1 5 (by decide)) (R := 288247968606191616) (by decide)) (R := 288247971290741543) (by decide)) (iv_mul (hKa.1 1 (by decide)) (hKb.1 4 (by decide)) (R := 288247968606191616) (by decide)) (R := 576495939896933159) (by decide)) (iv_mul (hKa.1 2 (by decide)) (hKb.1 3 (by decide)) (R := 288247968606191616) (by decide)) (R := 864743908503124775) (by decide)) (iv_mul (hKa.1 3 (by decide)) (hKb.1 2 (by decide)) (R := 288247968606191616) (by decide)) (R := 1152991877109316391) (by decide)) (iv_mul (hKa.1 4 (by decide)) (hKb.1 1 (by decide)) (R := 288247968606191616) (by decide)) (R := 1441239845715508007) (by decide)) (iv_mul (hKa.1 5 (by decide)) (hKb.1 0 (by decide)) (R := 288247968606191616) (by decide)) (R := 1729487814321699623) (by decide)) (iv_mul (iv_lit 31264 (by decide)) B_v12 (R := 16784732161504) (by decide)) (R := 1729504599053861127) (by decide)) B_z34 (R := 1729504736492814343) (by decide))
  refine jr_lstore (lv' := [(39, .long v29), (41, .long v18), (57, .long v17), (55, .long v16), (53, .long v14), (51, .long v12), (49, .long v10), (47, .long v8), (45, .long v6), (43, .long v4), (37, .long (lb 8)), (35, .long (lb 7)), (33, .long (lb 6)), (31, .long (lb 5)), (29, .long (lb 4)), (27, .long (lb 3)), (25, .long (lb 2)), (23, .long (lb 1)), (21, .long (lb 0)), (19, .long (la 8)), (17, .long (la 7)), (15, .long (la 6)), (13, .long (la 5)), (11, .long (la 4)), (9, .long (la 3)), (7, .long (la 2)), (5, .long (la 1)), (3, .long (la 0)), (0, .ref o), (1, .ref a), (2, .ref b)]) hE dX1_product_730 (by decide) rfl ?_
  refine jr_aload_n hE dX1_product_732 28 rfl ?_
  refine jr_lload hE dX1_product_733 0 rfl ?_
  refine jr_ldc2 (v := (536870911 : Int64)) hE dX1_product_735 (by decide +kernel) ?_
  refine jr_land hE dX1_product_738 rfl ?_
  refine jr_topl (fun v30 ev30 => ?_)
  obtain ⟨E_v30, B_v30⟩ := iv_nm ev30 (iv_and B_v29 (c := 536870911) (p := 536870912) (R := 536870911) 29 (by decide) (by decide) (by decide))
  refine jr_put (ty := .long) hE dX1_product_739 f25 g31 rfl (by decide +kernel) rfl rfl (Nat.le_of_ble_eq_true rfl) (fun F35 g36 u37 => ?_)
  have g36 : jF L F35 o (.inr (1, [.long v20, .long v22, .long v24, .long v26, .long v28, .long v30, .long (lo 6), .long (lo 7), .long (lo 8)])) := g36
  refine jr_lload hE dX1_product_742 0 rfl ?_
  refine jr_bipush (v := (29 : Int32)) hE dX1_product_744 (by decide) ?_
  refine jr_lshr hE dX1_product_746 rfl ?_
  refine jr_topl (fun z38 ez38 => ?_)
  obtain ⟨E_z38, B_z38⟩ := iv_nm ez38 (iv_shr B_v29 (c := 29) (k := 29) (p := 536870912) (R := 3221453609) (by decide) (by decide) (by decide))
  refine jr_lload_n hE dX1_product_747 27 rfl ?_
  refine jr_lload hE dX1_product_748 12 rfl ?_
  refine jr_lmul hE dX1_product_750 rfl ?_
  refine jr_ladd hE dX1_product_751 rfl ?_
  refine jr_lload hE dX1_product_752 26 rfl ?_
  refine jr_lload hE dX1_product_754 13 rfl ?_
  refine jr_lmul hE dX1_product_756 rfl ?_
  refine jr_ladd hE dX1_product_757 rfl ?_
  refine jr_lload hE dX1_product_758 25 rfl ?_
  refine jr_lload hE dX1_product_760 14 rfl ?_
  refine jr_lmul hE dX1_product_762 rfl ?_
  refine jr_ladd hE dX1_product_763 rfl ?_
  refine jr_lload hE dX1_product_764 24 rfl ?_
  refine jr_lload hE dX1_product_766 15 rfl ?_
  refine jr_lmul hE dX1_product_768 rfl ?_
  refine jr_ladd hE dX1_product_769 rfl ?_
  refine jr_lload hE dX1_product_770 23 rfl ?_
  refine jr_lload hE dX1_product_772 16 rfl ?_
  refine jr_lmul hE dX1_product_774 rfl ?_
  refine jr_ladd hE dX1_product_775 rfl ?_
  refine jr_lload hE dX1_product_776 22 rfl ?_
  refine jr_lload hE dX1_product_778 17 rfl ?_
  refine jr_lmul hE dX1_product_780 rfl ?_
  refine jr_ladd hE dX1_product_781 rfl ?_
  refine jr_lload hE dX1_product_782 21 rfl ?_
  refine jr_lload hE dX1_product_784 18 rfl ?_
  refine jr_lmul hE dX1_product_786 rfl ?_
  refine jr_ladd hE dX1_product_787 rfl ?_
  refine jr_ldc2 (v := (31264 : Int64)) hE dX1_product_788 (by decide +kernel) ?_
  refine jr_lload hE dX1_product_791 4 rfl ?_
  refine jr_lmul hE dX1_product_793 rfl ?_
  refine jr_ladd hE dX1_product_794 rfl ?_
  refine jr_lload hE dX1_product_795 5 rfl ?_
  refine jr_bipush (v := (8 : Int32)) hE dX1_product_797 (by decide) ?_
  refine jr_lshl hE dX1_product_799 rfl ?_
  refine jr_topl (fun z39 ez39 => ?_)
  obtain ⟨E_z39, B_z39⟩ := iv_nm ez39 (iv_shl B_v12 (c := 8) (k := 8) (p := 256) (R := 137438953216) (by decide) (by decide) (by decide))
  refine jr_ladd hE dX1_product_800 rfl ?_
  refine jr_topl (fun v31 ev31 => ?_)
  obtain ⟨E_v31, B_v31⟩ := iv_nm ev31 (iv_add (iv_add (iv_add (iv_add (iv_add (iv_add (iv_add (iv_add (iv_add B_z38 (iv_mul (hKa.1 0 (by decide)) (hKb.1 6 (by decide)) (R := 288247968606191616) (by decide)) (R := 288247971827645225) (by decide)) (iv_mul (hKa.1 1 (by decide)) (hKb.1 5 (by decide)) (R := 288247968606191616) (by decide)) (R := 576495940433836841) (by decide)) (iv_mul (hKa.1 2 (by decide)) (hKb.1 4 (by decide)) (R := 288247968606191616) (by decide)) (R := 864743909040028457) (by decide)) (iv_mul (hKa.1 3 (by decide)) (hKb.1 3 (by decide)) (R := 288247968606191616) (by decide)) (R := 1152991877646220073) (by decide)) (iv_mul (hKa.1 4 (by decide)) (hKb.1 2 (by decide)) (R := 288247968606191616) (by decide)) (R := 1441239846252411689) (by decide)) (iv_mul (hKa.1 5 (by decide)) (hKb.1 1 (by decide)) (R := 288247968606191616) (by decide)) (R := 1729487814858603305) (by decide)) (iv_mul (hKa.1 6 (by decide)) (hKb.1 0 (by decide)) (R := 288247968606191616) (by decide)) (R := 2017735783464794921) (by decide)) (iv_mul (iv_lit 31264 (by decide)) B_v14 (R := 16784732161504) (by decide)) (R := 2017752568196956425) (by decide)) B_z39 (R := 2017752705635909641) (by decide))
  refine jr_lstore (lv' := [(39, .long v31), (41, .long v18), (57, .long v17), (55, .long v16), (53, .long v14), (51, .long v12), (49, .long v10), (47, .long v8), (45, .long v6), (43, .long v4), (37, .long (lb 8)), (35, .long (lb 7)), (33, .long (lb 6)), (31, .long (lb 5)), (29, .long (lb 4)), (27, .long (lb 3)), (25, .long (lb 2)), (23, .long (lb 1)), (21, .long (lb 0)), (19, .long (la 8)), (17, .long (la 7)), (15, .long (la 6)), (13, .long (la 5)), (11, .long (la 4)), (9, .long (la 3)), (7, .long (la 2)), (5, .long (la 1)), (3, .long (la 0)), (0, .ref o), (1, .ref a), (2, .ref b)]) hE dX1_product_801 (by decide) rfl ?_
  refine jr_aload_n hE dX1_product_803 28 rfl ?_
  refine jr_lload hE dX1_product_804 0 rfl ?_
  refine jr_ldc2 (v := (536870911 : Int64)) hE dX1_product_806 (by decide +kernel) ?_
  refine jr_land hE dX1_product_809 rfl ?_
  refine jr_topl (fun v32 ev32 => ?_)
  obtain ⟨E_v32, B_v32⟩ := iv_nm ev32 (iv_and B_v31 (c := 536870911) (p := 536870912) (R := 536870911) 29 (by decide) (by decide) (by decide))
  refine jr_put (ty := .long) hE dX1_product_810 f28 g36 rfl (by decide +kernel) rfl rfl (Nat.le_of_ble_eq_true rfl) (fun F40 g41 u42 => ?_)
  have g41 : jF L F40 o (.inr (1, [.long v20, .long v22, .long v24, .long v26, .long v28, .long v30, .long v32, .long (lo 7), .long (lo 8)])) := g41
  refine jr_lload hE dX1_product_813 0 rfl ?_
  refine jr_bipush (v := (29 : Int32)) hE dX1_product_815 (by decide) ?_
  refine jr_lshr hE dX1_product_817 rfl ?_
  refine jr_topl (fun z43 ez43 => ?_)
  obtain ⟨E_z43, B_z43⟩ := iv_nm ez43 (iv_shr B_v31 (c := 29) (k := 29) (p := 536870912) (R := 3758357290) (by decide) (by decide) (by decide))
  refine jr_lload_n hE dX1_product_818 27 rfl ?_
  refine jr_lload hE dX1_product_819 11 rfl ?_
  refine jr_lmul hE dX1_product_821 rfl ?_
  refine jr_ladd hE dX1_product_822 rfl ?_
  refine jr_lload hE dX1_product_823 26 rfl ?_
  refine jr_lload hE dX1_product_825 12 rfl ?_
  refine jr_lmul hE dX1_product_827 rfl ?_
  refine jr_ladd hE dX1_product_828 rfl ?_
  refine jr_lload hE dX1_product_829 25 rfl ?_
  refine jr_lload hE dX1_product_831 13 rfl ?_
  refine jr_lmul hE dX1_product_833 rfl ?_
  refine jr_ladd hE dX1_product_834 rfl ?_
  refine jr_lload hE dX1_product_835 24 rfl ?_
  refine jr_lload hE dX1_product_837 14 rfl ?_
  refine jr_lmul hE dX1_product_839 rfl ?_
  refine jr_ladd hE dX1_product_840 rfl ?_
  refine jr_lload hE dX1_product_841 23 rfl ?_
  refine jr_lload hE dX1_product_843 15 rfl ?_
  refine jr_lmul hE dX1_product_845 rfl ?_
  refine jr_ladd hE dX1_product_846 rfl ?_
  refine jr_lload hE dX1_product_847 22 rfl ?_
  refine jr_lload hE dX1_product_849 16 rfl ?_
  refine jr_lmul hE dX1_product_851 rfl ?_
  refine jr_ladd hE dX1_product_852 rfl ?_
  refine jr_lload hE dX1_product_853 21 rfl ?_
  refine jr_lload hE dX1_product_855 17 rfl ?_
  refine jr_lmul hE dX1_product_857 rfl ?_
  refine jr_ladd hE dX1_product_858 rfl ?_
  refine jr_lload hE dX1_product_859 20 rfl ?_
  refine jr_lload hE dX1_product_861 18 rfl ?_
  refine jr_lmul hE dX1_product_863 rfl ?_
  refine jr_ladd hE dX1_product_864 rfl ?_
  refine jr_ldc2 (v := (31264 : Int64)) hE dX1_product_865 (by decide +kernel) ?_
  refine jr_lload hE dX1_product_868 3 rfl ?_
  refine jr_lmul hE dX1_product_870 rfl ?_
  refine jr_ladd hE dX1_product_871 rfl ?_
  refine jr_lload hE dX1_product_872 4 rfl ?_
  refine jr_bipush (v := (8 : Int32)) hE dX1_product_874 (by decide) ?_
  refine jr_lshl hE dX1_product_876 rfl ?_
  refine jr_topl (fun z44 ez44 => ?_)
  obtain ⟨E_z44, B_z44⟩ := iv_nm ez44 (iv_shl B_v14 (c := 8) (k := 8) (p := 256) (R := 137438953216) (by decide) (by decide) (by decide))
  refine jr_ladd hE dX1_product_877 rfl ?_
  refine jr_topl (fun v33 ev33 => ?_)
  obtain ⟨E_v33, B_v33⟩ := iv_nm ev33 (iv_add (iv_add (iv_add (iv_add (iv_add (iv_add (iv_add (iv_add (iv_add (iv_add B_z43 (iv_mul (hKa.1 0 (by decide)) (hKb.1 7 (by decide)) (R := 288247968606191616) (by decide)) (R := 288247972364548906) (by decide)) (iv_mul (hKa.1 1 (by decide)) (hKb.1 6 (by decide)) (R := 288247968606191616) (by decide)) (R := 576495940970740522) (by decide)) (iv_mul (hKa.1 2 (by decide)) (hKb.1 5 (by decide)) (R := 288247968606191616) (by decide)) (R := 864743909576932138) (by decide)) (iv_mul (hKa.1 3 (by decide)) (hKb.1 4 (by decide)) (R := 288247968606191616) (by decide)) (R := 1152991878183123754) (by decide)) (iv_mul (hKa.1 4 (by decide)) (hKb.1 3 (by decide)) (R := 288247968606191616) (by decide)) (R := 1441239846789315370) (by decide)) (iv_mul (hKa.1 5 (by decide)) (hKb.1 2 (by decide)) (R := 288247968606191616) (by decide)) (R := 1729487815395506986) (by decide)) (iv_mul (hKa.1 6 (by decide)) (hKb.1 1 (by decide)) (R := 288247968606191616) (by decide)) (R := 2017735784001698602) (by decide)) (iv_mul (hKa.1 7 (by decide)) (hKb.1 0 (by decide)) (R := 288247968606191616) (by decide)) (R := 2305983752607890218) (by decide)) (iv_mul (iv_lit 31264 (by decide)) B_v16 (R := 16784732161504) (by decide)) (R := 2306000537340051722) (by decide)) B_z44 (R := 2306000674779004938) (by decide))
  refine jr_lstore (lv' := [(39, .long v33), (41, .long v18), (57, .long v17), (55, .long v16), (53, .long v14), (51, .long v12), (49, .long v10), (47, .long v8), (45, .long v6), (43, .long v4), (37, .long (lb 8)), (35, .long (lb 7)), (33, .long (lb 6)), (31, .long (lb 5)), (29, .long (lb 4)), (27, .long (lb 3)), (25, .long (lb 2)), (23, .long (lb 1)), (21, .long (lb 0)), (19, .long (la 8)), (17, .long (la 7)), (15, .long (la 6)), (13, .long (la 5)), (11, .long (la 4)), (9, .long (la 3)), (7, .long (la 2)), (5, .long (la 1)), (3, .long (la 0)), (0, .ref o), (1, .ref a), (2, .ref b)]) hE dX1_product_878 (by decide) rfl ?_
  refine jr_aload_n hE dX1_product_880 28 rfl ?_
  refine jr_lload hE dX1_product_881 0 rfl ?_
  refine jr_ldc2 (v := (536870911 : Int64)) hE dX1_product_883 (by decide +kernel) ?_
  refine jr_land hE dX1_product_886 rfl ?_
  refine jr_topl (fun v34 ev34 => ?_)
  obtain ⟨E_v34, B_v34⟩ := iv_nm ev34 (iv_and B_v33 (c := 536870911) (p := 536870912) (R := 536870911) 29 (by decide) (by decide) (by decide))
  refine jr_put (ty := .long) hE dX1_product_887 f31 g41 rfl (by decide +kernel) rfl rfl (Nat.le_of_ble_eq_true rfl) (fun F45 g46 u47 => ?_)
  have g46 : jF L F45 o (.inr (1, [.long v20, .long v22, .long v24, .long v26, .long v28, .long v30, .long v32, .long v34, .long (lo 8)])) := g46
  refine jr_lload hE dX1_product_890 0 rfl ?_
  refine jr_bipush (v := (29 : Int32)) hE dX1_product_892 (by decide) ?_
  refine jr_lshr hE dX1_product_894 rfl ?_
  refine jr_topl (fun z48 ez48 => ?_)
  obtain ⟨E_z48, B_z48⟩ := iv_nm ez48 (iv_shr B_v33 (c := 29) (k := 29) (p := 536870912) (R := 4295260972) (by decide) (by decide) (by decide))
  refine jr_lload_n hE dX1_product_895 27 rfl ?_
  refine jr_lload hE dX1_product_896 10 rfl ?_
  refine jr_lmul hE dX1_product_898 rfl ?_
  refine jr_ladd hE dX1_product_899 rfl ?_
  refine jr_lload hE dX1_product_900 26 rfl ?_
  refine jr_lload hE dX1_product_902 11 rfl ?_
  refine jr_lmul hE dX1_product_904 rfl ?_
  refine jr_ladd hE dX1_product_905 rfl ?_
  refine jr_lload hE dX1_product_906 25 rfl ?_
  refine jr_lload hE dX1_product_908 12 rfl ?_
  refine jr_lmul hE dX1_product_910 rfl ?_
  refine jr_ladd hE dX1_product_911 rfl ?_
  refine jr_lload hE dX1_product_912 24 rfl ?_
  refine jr_lload hE dX1_product_914 13 rfl ?_
  refine jr_lmul hE dX1_product_916 rfl ?_
  refine jr_ladd hE dX1_product_917 rfl ?_
  refine jr_lload hE dX1_product_918 23 rfl ?_
  refine jr_lload hE dX1_product_920 14 rfl ?_
  refine jr_lmul hE dX1_product_922 rfl ?_
  refine jr_ladd hE dX1_product_923 rfl ?_
  refine jr_lload hE dX1_product_924 22 rfl ?_
  refine jr_lload hE dX1_product_926 15 rfl ?_
  refine jr_lmul hE dX1_product_928 rfl ?_
  refine jr_ladd hE dX1_product_929 rfl ?_
  refine jr_lload hE dX1_product_930 21 rfl ?_
  refine jr_lload hE dX1_product_932 16 rfl ?_
  refine jr_lmul hE dX1_product_934 rfl ?_
  refine jr_ladd hE dX1_product_935 rfl ?_
  refine jr_lload hE dX1_product_936 20 rfl ?_
  refine jr_lload hE dX1_product_938 17 rfl ?_
  refine jr_lmul hE dX1_product_940 rfl ?_
  refine jr_ladd hE dX1_product_941 rfl ?_
  refine jr_lload hE dX1_product_942 19 rfl ?_
  refine jr_lload hE dX1_product_944 18 rfl ?_
  refine jr_lmul hE dX1_product_946 rfl ?_
  refine jr_ladd hE dX1_product_947 rfl ?_
  refine jr_ldc2 (v := (31264 : Int64)) hE dX1_product_948 (by decide +kernel) ?_
  refine jr_lload hE dX1_product_951 2 rfl ?_
  refine jr_lmul hE dX1_product_953 rfl ?_
  refine jr_ladd hE dX1_product_954 rfl ?_
  refine jr_lload hE dX1_product_955 3 rfl ?_
  refine jr_bipush (v := (8 : Int32)) hE dX1_product_957 (by decide) ?_
  refine jr_lshl hE dX1_product_959 rfl ?_
  refine jr_topl (fun z49 ez49 => ?_)
  obtain ⟨E_z49, B_z49⟩ := iv_nm ez49 (iv_shl B_v16 (c := 8) (k := 8) (p := 256) (R := 137438953216) (by decide) (by decide) (by decide))
  refine jr_ladd hE dX1_product_960 rfl ?_
  refine jr_topl (fun v35 ev35 => ?_)
  obtain ⟨E_v35, B_v35⟩ := iv_nm ev35 (iv_add (iv_add (iv_add (iv_add (iv_add (iv_add (iv_add (iv_add (iv_add (iv_add (iv_add B_z48 (iv_mul (hKa.1 0 (by decide)) hKb.2 (R := 9016270494105600) (by decide)) (R := 9016274789366572) (by decide)) (iv_mul (hKa.1 1 (by decide)) (hKb.1 7 (by decide)) (R := 288247968606191616) (by decide)) (R := 297264243395558188) (by decide)) (iv_mul (hKa.1 2 (by decide)) (hKb.1 6 (by decide)) (R := 288247968606191616) (by decide)) (R := 585512212001749804) (by decide)) (iv_mul (hKa.1 3 (by decide)) (hKb.1 5 (by decide)) (R := 288247968606191616) (by decide)) (R := 873760180607941420) (by decide)) (iv_mul (hKa.1 4 (by decide)) (hKb.1 4 (by decide)) (R := 288247968606191616) (by decide)) (R := 1162008149214133036) (by decide)) (iv_mul (hKa.1 5 (by decide)) (hKb.1 3 (by decide)) (R := 288247968606191616) (by decide)) (R := 1450256117820324652) (by decide)) (iv_mul (hKa.1 6 (by decide)) (hKb.1 2 (by decide)) (R := 288247968606191616) (by decide)) (R := 1738504086426516268) (by decide)) (iv_mul (hKa.1 7 (by decide)) (hKb.1 1 (by decide)) (R := 288247968606191616) (by decide)) (R := 2026752055032707884) (by decide)) (iv_mul hKa.2 (hKb.1 0 (by decide)) (R := 9016270494105600) (by decide)) (R := 2035768325526813484) (by decide)) (iv_mul (iv_lit 31264 (by decide)) B_v17 (R := 16423385632) (by decide)) (R := 2035768341950199116) (by decide)) B_z49 (R := 2035768479389152332) (by decide))
  refine jr_lstore (lv' := [(39, .long v35), (41, .long v18), (57, .long v17), (55, .long v16), (53, .long v14), (51, .long v12), (49, .long v10), (47, .long v8), (45, .long v6), (43, .long v4), (37, .long (lb 8)), (35, .long (lb 7)), (33, .long (lb 6)), (31, .long (lb 5)), (29, .long (lb 4)), (27, .long (lb 3)), (25, .long (lb 2)), (23, .long (lb 1)), (21, .long (lb 0)), (19, .long (la 8)), (17, .long (la 7)), (15, .long (la 6)), (13, .long (la 5)), (11, .long (la 4)), (9, .long (la 3)), (7, .long (la 2)), (5, .long (la 1)), (3, .long (la 0)), (0, .ref o), (1, .ref a), (2, .ref b)]) hE dX1_product_961 (by decide) rfl ?_
  refine jr_aload_n hE dX1_product_963 28 rfl ?_
  refine jr_lload hE dX1_product_964 0 rfl ?_
  refine jr_ldc2 (v := (16777215 : Int64)) hE dX1_product_966 (by decide +kernel) ?_
  refine jr_land hE dX1_product_969 rfl ?_
  refine jr_topl (fun v36 ev36 => ?_)
  obtain ⟨E_v36, B_v36⟩ := iv_nm ev36 (iv_and B_v35 (c := 16777215) (p := 16777216) (R := 16777215) 24 (by decide) (by decide) (by decide))
  refine jr_put (ty := .long) hE dX1_product_970 f34 g46 rfl (by decide +kernel) rfl rfl (Nat.le_of_ble_eq_true rfl) (fun F50 g51 u52 => ?_)
  have g51 : jF L F50 o (.inr (1, [.long v20, .long v22, .long v24, .long v26, .long v28, .long v30, .long v32, .long v34, .long v36])) := g51
  refine jr_lload hE dX1_product_973 0 rfl ?_
  refine jr_bipush (v := (24 : Int32)) hE dX1_product_975 (by decide) ?_
  refine jr_lshr hE dX1_product_977 rfl ?_
  refine jr_topl (fun z53 ez53 => ?_)
  obtain ⟨E_z53, B_z53⟩ := iv_nm ez53 (iv_shr B_v35 (c := 24) (k := 24) (p := 16777216) (R := 121341257059) (by decide) (by decide) (by decide))
  refine jr_topl (fun v37 ev37 => ?_)
  obtain ⟨E_v37, B_v37⟩ := iv_nm ev37 B_z53
  refine jr_lstore (lv' := [(59, .long v37), (39, .long v35), (41, .long v18), (57, .long v17), (55, .long v16), (53, .long v14), (51, .long v12), (49, .long v10), (47, .long v8), (45, .long v6), (43, .long v4), (37, .long (lb 8)), (35, .long (lb 7)), (33, .long (lb 6)), (31, .long (lb 5)), (29, .long (lb 4)), (27, .long (lb 3)), (25, .long (lb 2)), (23, .long (lb 1)), (21, .long (lb 0)), (19, .long (la 8)), (17, .long (la 7)), (15, .long (la 6)), (13, .long (la 5)), (11, .long (la 4)), (9, .long (la 3)), (7, .long (la 2)), (5, .long (la 1)), (3, .long (la 0)), (0, .ref o), (1, .ref a), (2, .ref b)]) hE dX1_product_978 (by decide) rfl ?_
  refine jr_aload_n hE dX1_product_980 29 rfl ?_
  refine jr_get hE dX1_product_981 f7 g51 rfl ?_
  refine jr_lload hE dX1_product_984 0 rfl ?_
  refine jr_ldc2 (v := (977 : Int64)) hE dX1_product_986 (by decide +kernel) ?_
  refine jr_lmul hE dX1_product_989 rfl ?_
  refine jr_ladd hE dX1_product_990 rfl ?_
  refine jr_topl (fun v38 ev38 => ?_)
  obtain ⟨E_v38, B_v38⟩ := iv_nm ev38 (iv_add B_v20 (iv_mul B_v37 (iv_lit 977 (by decide)) (R := 118550408146643) (by decide)) (R := 118550945017554) (by decide))
  refine jr_lstore (lv' := [(39, .long v38), (59, .long v37), (41, .long v18), (57, .long v17), (55, .long v16), (53, .long v14), (51, .long v12), (49, .long v10), (47, .long v8), (45, .long v6), (43, .long v4), (37, .long (lb 8)), (35, .long (lb 7)), (33, .long (lb 6)), (31, .long (lb 5)), (29, .long (lb 4)), (27, .long (lb 3)), (25, .long (lb 2)), (23, .long (lb 1)), (21, .long (lb 0)), (19, .long (la 8)), (17, .long (la 7)), (15, .long (la 6)), (13, .long (la 5)), (11, .long (la 4)), (9, .long (la 3)), (7, .long (la 2)), (5, .long (la 1)), (3, .long (la 0)), (0, .ref o), (1, .ref a), (2, .ref b)]) hE dX1_product_991 (by decide) rfl ?_
  refine jr_aload_n hE dX1_product_993 29 rfl ?_
  refine jr_lload hE dX1_product_994 0 rfl ?_
  refine jr_ldc2 (v := (536870911 : Int64)) hE dX1_product_996 (by decide +kernel) ?_
  refine jr_land hE dX1_product_999 rfl ?_
  refine jr_topl (fun v39 ev39 => ?_)
  obtain ⟨E_v39, B_v39⟩ := iv_nm ev39 (iv_and B_v38 (c := 536870911) (p := 536870912) (R := 536870911) 29 (by decide) (by decide) (by decide))
  refine jr_put (ty := .long) hE dX1_product_1000 f7 g51 rfl (by decide +kernel) rfl rfl (Nat.le_of_ble_eq_true rfl) (fun F54 g55 u56 => ?_)
  have g55 : jF L F54 o (.inr (1, [.long v39, .long v22, .long v24, .long v26, .long v28, .long v30, .long v32, .long v34, .long v36])) := g55
  refine jr_lload hE dX1_product_1003 0 rfl ?_
  refine jr_bipush (v := (29 : Int32)) hE dX1_product_1005 (by decide) ?_
  refine jr_lshr hE dX1_product_1007 rfl ?_
  refine jr_topl (fun z57 ez57 => ?_)
  obtain ⟨E_z57, B_z57⟩ := iv_nm ez57 (iv_shr B_v38 (c := 29) (k := 29) (p := 536870912) (R := 220819) (by decide) (by decide) (by decide))
  refine jr_aload_n hE dX1_product_1008 29 rfl ?_
  refine jr_get hE dX1_product_1009 f13 g55 rfl ?_
  refine jr_ladd hE dX1_product_1012 rfl ?_
  refine jr_lload hE dX1_product_1013 1 rfl ?_
  refine jr_iconst (v := (3 : Int32)) hE dX1_product_1015 (by decide) ?_
  refine jr_lshl hE dX1_product_1016 rfl ?_
  refine jr_topl (fun z58 ez58 => ?_)
  obtain ⟨E_z58, B_z58⟩ := iv_nm ez58 (iv_shl B_v37 (c := 3) (k := 3) (p := 8) (R := 970730056472) (by decide) (by decide) (by decide))
  refine jr_ladd hE dX1_product_1017 rfl ?_
  refine jr_topl (fun v40 ev40 => ?_)
  obtain ⟨E_v40, B_v40⟩ := iv_nm ev40 (iv_add (iv_add B_z57 B_v22 (R := 537091730) (by decide)) B_z58 (R := 971267148202) (by decide))
  refine jr_lstore (lv' := [(39, .long v40), (59, .long v37), (41, .long v18), (57, .long v17), (55, .long v16), (53, .long v14), (51, .long v12), (49, .long v10), (47, .long v8), (45, .long v6), (43, .long v4), (37, .long (lb 8)), (35, .long (lb 7)), (33, .long (lb 6)), (31, .long (lb 5)), (29, .long (lb 4)), (27, .long (lb 3)), (25, .long (lb 2)), (23, .long (lb 1)), (21, .long (lb 0)), (19, .long (la 8)), (17, .long (la 7)), (15, .long (la 6)), (13, .long (la 5)), (11, .long (la 4)), (9, .long (la 3)), (7, .long (la 2)), (5, .long (la 1)), (3, .long (la 0)), (0, .ref o), (1, .ref a), (2, .ref b)]) hE dX1_product_1018 (by decide) rfl ?_
  refine jr_aload_n hE dX1_product_1020 29 rfl ?_
  refine jr_lload hE dX1_product_1021 0 rfl ?_
  refine jr_ldc2 (v := (536870911 : Int64)) hE dX1_product_1023 (by decide +kernel) ?_
  refine jr_land hE dX1_product_1026 rfl ?_
  refine jr_topl (fun v41 ev41 => ?_)
  obtain ⟨E_v41, B_v41⟩ := iv_nm ev41 (iv_and B_v40 (c := 536870911) (p := 536870912) (R := 536870911) 29 (by decide) (by decide) (by decide))
  refine jr_put (ty := .long) hE dX1_product_1027 f13 g55 rfl (by decide +kernel) rfl rfl (Nat.le_of_ble_eq_true rfl) (fun F59 g60 u61 => ?_)
  have g60 : jF L F59 o (.inr (1, [.long v39, .long v41, .long v24, .long v26, .long v28, .long v30, .long v32, .long v34, .long v36])) := g60
  refine jr_aload_n hE dX1_product_1030 29 rfl ?_
  refine jr_dup hE dX1_product_1031 rfl ?_
  refine jr_get hE dX1_product_1032 f16 g60 rfl ?_
  refine jr_lload hE dX1_product_1035 0 rfl ?_
  refine jr_bipush (v := (29 : Int32)) hE dX1_product_1037 (by decide) ?_
  refine jr_lshr hE dX1_product_1039 rfl ?_
  refine jr_topl (fun z62 ez62 => ?_)
  obtain ⟨E_z62, B_z62⟩ := iv_nm ez62 (iv_shr B_v40 (c := 29) (k := 29) (p := 536870912) (R := 1810) (by decide) (by decide) (by decide))
  refine jr_ladd hE dX1_product_1040 rfl ?_
  refine jr_topl (fun v42 ev42 => ?_)
  obtain ⟨E_v42, B_v42⟩ := iv_nm ev42 (iv_add B_v24 B_z62 (R := 536872721) (by decide))
  refine jr_put (ty := .long) hE dX1_product_1041 f16 g60 rfl (by decide +kernel) rfl rfl (Nat.le_of_ble_eq_true rfl) (fun F63 g64 u65 => ?_)
  have g64 : jF L F63 o (.inr (1, [.long v39, .long v41, .long v42, .long v26, .long v28, .long v30, .long v32, .long v34, .long v36])) := g64
  have hup := prod_up E_v1 E_v2 E_z1 E_v3 E_v4 E_z2 E_v5 E_v6 E_z3 E_v7 E_v8 E_z4 E_v9 E_v10 E_z5 E_v11 E_v12 E_z6 E_v13 E_v14 E_z7 E_v15 E_v16 E_z8 E_v17
  have hlo := prod_lo E_v19 E_v20 E_z13 E_z14 E_v21 E_v22 E_z18 E_z19 E_v23 E_v24 E_z23 E_z24 E_v25 E_v26 E_z28 E_z29 E_v27 E_v28 E_z33 E_z34 E_v29 E_v30 E_z38 E_z39 E_v31 E_v32 E_z43 E_z44 E_v33 E_v34 E_z48 E_z49 E_v35 E_v36 E_z53 E_v37 E_v38 E_v39 E_z57 E_z58 E_v40 E_v41 E_z62 E_v42
  have hfin := prod_fin E_z9 E_v18 rfl hlo
  rw [hup] at hfin
  have hmul := cV_mul la lb
  have hval : cV (cl9 v39 v41 v42 v26 v28 v30 v32 v34 v36) = cV la * cV lb - (PP : Int) * (32 * (((la 1).toInt * (lb 8).toInt + (la 2).toInt * (lb 7).toInt + (la 3).toInt * (lb 6).toInt + (la 4).toInt * (lb 5).toInt + (la 5).toInt * (lb 4).toInt + (la 6).toInt * (lb 3).toInt + (la 7).toInt * (lb 2).toInt + (la 8).toInt * (lb 1).toInt) + ((la 2).toInt * (lb 8).toInt + (la 3).toInt * (lb 7).toInt + (la 4).toInt * (lb 6).toInt + (la 5).toInt * (lb 5).toInt + (la 6).toInt * (lb 4).toInt + (la 7).toInt * (lb 3).toInt + (la 8).toInt * (lb 2).toInt) * 536870912 + ((la 3).toInt * (lb 8).toInt + (la 4).toInt * (lb 7).toInt + (la 5).toInt * (lb 6).toInt + (la 6).toInt * (lb 5).toInt + (la 7).toInt * (lb 4).toInt + (la 8).toInt * (lb 3).toInt) * 536870912 ^ 2 + ((la 4).toInt * (lb 8).toInt + (la 5).toInt * (lb 7).toInt + (la 6).toInt * (lb 6).toInt + (la 7).toInt * (lb 5).toInt + (la 8).toInt * (lb 4).toInt) * 536870912 ^ 3 + ((la 5).toInt * (lb 8).toInt + (la 6).toInt * (lb 7).toInt + (la 7).toInt * (lb 6).toInt + (la 8).toInt * (lb 5).toInt) * 536870912 ^ 4 + ((la 6).toInt * (lb 8).toInt + (la 7).toInt * (lb 7).toInt + (la 8).toInt * (lb 6).toInt) * 536870912 ^ 5 + ((la 7).toInt * (lb 8).toInt + (la 8).toInt * (lb 7).toInt) * 536870912 ^ 6 + ((la 8).toInt * (lb 8).toInt) * 536870912 ^ 7) + 8192 * v17.toInt + v37.toInt) := by
    rw [PP_eq, hmul]
    exact hfin
  exact hR F63 _ _ dX1_product_1044 ⟨⟨cl9 v39 v41 v42 v26 v28 v30 v32 v34 v36, g64, cK_of (iv_le B_v39 (by decide)) (iv_le B_v41 (by decide)) (iv_le B_v42 (by decide)) (iv_le B_v26 (by decide)) (iv_le B_v28 (by decide)) (iv_le B_v30 (by decide)) (iv_le B_v32 (by decide)) (iv_le B_v34 (by decide)) (iv_le B_v36 (by decide)), mod_of_eq hx hy hval⟩, fun z hz => ((u65 z (jne hz 0 rfl)).trans ((u61 z (jne hz 0 rfl)).trans ((u56 z (jne hz 0 rfl)).trans ((u52 z (jne hz 0 rfl)).trans ((u47 z (jne hz 0 rfl)).trans ((u42 z (jne hz 0 rfl)).trans ((u37 z (jne hz 0 rfl)).trans ((u32 z (jne hz 0 rfl)).trans ((u27 z (jne hz 0 rfl)).trans ((u22 z (jne hz 0 rfl)).trans ((u17 z (jne hz 0 rfl)).trans (u12 z (jne hz 0 rfl)))))))))))))⟩

