def oF : m_W := [(16, 17), (9, 10), (0, 32), (0, 6), (0, 24), (0, 24), (0, 24), (0, 24), (0, 16), (9, 10), (0, 32), (0, 6), (0, 24), (0, 24), (0, 24), (0, 24), (0, 16), (4, 2), (9, 10), (0, 32), (0, 6), (0, 24), (0, 24), (0, 24), (0, 24), (0, 16), (9, 10), (0, 32), (0, 6), (0, 24), (0, 24), (0, 24), (0, 24), (0, 16), (2, 2), (13, 2), (0, 400), (6, 4), (14, 6), (0, 48), (2, 48), (0, 48), (3, 16), (7, 3), (7, 3), (7, 3), (7, 3), (7, 3), (7, 3), (7, 3), (7, 3), (7, 3), (7, 3), (7, 3), (7, 3), (7, 3), (7, 3), (7, 3), (7, 3), (3, 16), (7, 3), (7, 3), (7, 3), (7, 3), (7, 3), (7, 3), (7, 3), (7, 3), (7, 3), (7, 3), (7, 3), (7, 3), (7, 3), (7, 3), (7, 3), (7, 3), (3, 16), (7, 3), (7, 3), (7, 3), (7, 3), (7, 3), (7, 3), (7, 3), (7, 3), (7, 3), (7, 3), (7, 3), (7, 3), (7, 3), (7, 3), (7, 3), (7, 3), (12, 2), (7, 3), (7, 3), (15, 5), (1, 3), (1, 3), (5, 1), (0, 16), (8, 4), (11, 5), (0, 3), (0, 12), (10, 4), (0, 32), (0, 5), (17, 63), (0, 7), (0, 200), (0, 400), (2, 2), (0, 400), (0, 1000), (1, 10), (1, 10), (0, 60), (0, 60), (0, 60), (0, 60), (2, 60), (0, 32), (0, 6), (1, 80), (1, 80), (2, 16), (2, 16), (1, 80), (1, 80), (2, 16), (2, 16), (1, 5), (1, 5), (2, 256), (1, 10), (1, 10), (1, 5), (1, 20), (1, 10), (1, 10), (1, 10), (1, 10), (1, 3), (1, 3), (0, 16), (0, 3), (0, 32)]
theorem oF_len : oF.length = 148 := by decide +kernel
theorem oF_sz : m_sz oF = 4732 := by decide +kernel
def r_lo (j : Nat) : Int := if j < 2 then 0 else if j < 10 then -2147483648 else if j < 48 then -1 else if j < 60 then 0 else if j < 76 then 1 else if j < 80 then -2147483648 else 0
def r_hi (j : Nat) : Int := if j = 0 then 24 else if j = 1 then 6 else if j < 10 then 2147483647 else if j < 42 then 3 else if j < 48 then 31 else if j < 60 then 3 else if j < 76 then 9999 else if j < 80 then 2147483647 else if (j - 80) % 5 = 0 then 5 else if (j - 80) % 5 = 1 then 31 else if (j - 80) % 5 = 2 then 99 else if (j - 80) % 5 = 3 then 2 else 1
def g_p0 : Nat → Int → Prop := fun j x => match j with | 0 => x = ((1 : Nat) : Int) | 1 => x = ((9 : Nat) : Int) | 2 => x = ((17 : Nat) : Int) | 3 => x = ((34 : Nat) : Int) | 4 => x = ((35 : Nat) : Int) | 5 => x = ((37 : Nat) : Int) | 6 => x = ((38 : Nat) : Int) | 7 => x = ((93 : Nat) : Int) | 8 => x = ((96 : Nat) : Int) | 9 => x = ((99 : Nat) : Int) | 10 => x = ((101 : Nat) : Int) | 11 => x = ((102 : Nat) : Int) | 12 => x = ((105 : Nat) : Int) | 13 => x = ((107 : Nat) : Int) | _ => True
def g_p1 : Nat → Int → Prop := fun j x => match j with | 0 => x = ((2 : Nat) : Int) | 1 => x = ((3 : Nat) : Int) | 2 => x = ((4 : Nat) : Int) | 3 => x = ((5 : Nat) : Int) | 4 => x = ((6 : Nat) : Int) | 5 => x = ((7 : Nat) : Int) | 6 => x = ((8 : Nat) : Int) | 7 => 0 ≤ x ∧ x ≤ 24 | _ => True
def g_p2 : Nat → Int → Prop := fun _ x => -1 ≤ x ∧ x ≤ 3
def g_p3 : Nat → Int → Prop := fun _ x => -1 ≤ x ∧ x ≤ 31
def g_p4 : Nat → Int → Prop := fun _ x => 0 ≤ x ∧ x ≤ 5
def g_p5 : Nat → Int → Prop := fun _ x => 0 ≤ x ∧ x ≤ 31
def g_p6 : Nat → Int → Prop := fun _ x => 0 ≤ x ∧ x ≤ 99
def g_p7 : Nat → Int → Prop := fun _ x => 0 ≤ x ∧ x ≤ 2
def g_p8 : Nat → Int → Prop := fun _ x => 1 ≤ x ∧ x ≤ 9999
def g_p9 : Nat → Int → Prop := fun j x => match j with | 0 => x = ((10 : Nat) : Int) | 1 => x = ((11 : Nat) : Int) | 2 => x = ((12 : Nat) : Int) | 3 => x = ((13 : Nat) : Int) | 4 => x = ((14 : Nat) : Int) | 5 => x = ((15 : Nat) : Int) | 6 => x = ((16 : Nat) : Int) | 7 => 0 ≤ x ∧ x ≤ 24 | _ => True
def g_p10 : Nat → Int → Prop := fun _ x => -1 ≤ x ∧ x ≤ 3
def g_p11 : Nat → Int → Prop := fun _ x => -1 ≤ x ∧ x ≤ 31
def g_p12 : Nat → Int → Prop := fun _ x => 0 ≤ x ∧ x ≤ 5
def g_p13 : Nat → Int → Prop := fun _ x => 0 ≤ x ∧ x ≤ 31
def g_p14 : Nat → Int → Prop := fun _ x => 0 ≤ x ∧ x ≤ 99
def g_p15 : Nat → Int → Prop := fun _ x => 0 ≤ x ∧ x ≤ 2
def g_p16 : Nat → Int → Prop := fun _ x => 1 ≤ x ∧ x ≤ 9999
def g_p17 : Nat → Int → Prop := fun j x => x = ((18 + 8 * j : Nat) : Int)
def g_p18 : Nat → Int → Prop := fun j x => match j with | 0 => x = ((19 : Nat) : Int) | 1 => x = ((20 : Nat) : Int) | 2 => x = ((21 : Nat) : Int) | 3 => x = ((22 : Nat) : Int) | 4 => x = ((23 : Nat) : Int) | 5 => x = ((24 : Nat) : Int) | 6 => x = ((25 : Nat) : Int) | 7 => 0 ≤ x ∧ x ≤ 24 | _ => True
def g_p19 : Nat → Int → Prop := fun _ x => -1 ≤ x ∧ x ≤ 3
def g_p20 : Nat → Int → Prop := fun _ x => -1 ≤ x ∧ x ≤ 31
def g_p21 : Nat → Int → Prop := fun _ x => 0 ≤ x ∧ x ≤ 5
def g_p22 : Nat → Int → Prop := fun _ x => 0 ≤ x ∧ x ≤ 31
def g_p23 : Nat → Int → Prop := fun _ x => 0 ≤ x ∧ x ≤ 99
def g_p24 : Nat → Int → Prop := fun _ x => 0 ≤ x ∧ x ≤ 2
def g_p25 : Nat → Int → Prop := fun _ x => 1 ≤ x ∧ x ≤ 9999
def g_p26 : Nat → Int → Prop := fun j x => match j with | 0 => x = ((27 : Nat) : Int) | 1 => x = ((28 : Nat) : Int) | 2 => x = ((29 : Nat) : Int) | 3 => x = ((30 : Nat) : Int) | 4 => x = ((31 : Nat) : Int) | 5 => x = ((32 : Nat) : Int) | 6 => x = ((33 : Nat) : Int) | 7 => 0 ≤ x ∧ x ≤ 24 | _ => True
def g_p27 : Nat → Int → Prop := fun _ x => -1 ≤ x ∧ x ≤ 3
def g_p28 : Nat → Int → Prop := fun _ x => -1 ≤ x ∧ x ≤ 31
def g_p29 : Nat → Int → Prop := fun _ x => 0 ≤ x ∧ x ≤ 5
def g_p30 : Nat → Int → Prop := fun _ x => 0 ≤ x ∧ x ≤ 31
def g_p31 : Nat → Int → Prop := fun _ x => 0 ≤ x ∧ x ≤ 99
def g_p32 : Nat → Int → Prop := fun _ x => 0 ≤ x ∧ x ≤ 2
def g_p33 : Nat → Int → Prop := fun _ x => 1 ≤ x ∧ x ≤ 9999
def g_p34 : Nat → Int → Prop := fun _ x => 0 ≤ x ∧ x ≤ 1
def g_p35 : Nat → Int → Prop := fun j x => match j with | 0 => x = ((36 : Nat) : Int) | 1 => 0 ≤ x ∧ x ≤ 400 | _ => True
def g_p36 : Nat → Int → Prop := fun _ x => 0 ≤ x ∧ x ≤ 255
def g_p37 : Nat → Int → Prop := fun j x => match j with | 0 => x = ((35 : Nat) : Int) | 1 => 0 ≤ x ∧ x ≤ 400 | 2 => 0 ≤ x ∧ x ≤ 400 | _ => True
def g_p38 : Nat → Int → Prop := fun j x => match j with | 0 => x = ((39 : Nat) : Int) | 1 => x = ((40 : Nat) : Int) | 2 => x = ((41 : Nat) : Int) | 3 => x = ((42 : Nat) : Int) | 4 => x = ((59 : Nat) : Int) | 5 => x = ((76 : Nat) : Int) | _ => True
def g_p39 : Nat → Int → Prop := fun _ _ => True
def g_p40 : Nat → Int → Prop := fun _ x => 0 ≤ x ∧ x ≤ 1
def g_p41 : Nat → Int → Prop := fun _ _ => True
def g_p42 : Nat → Int → Prop := fun j x => x = ((43 + j : Nat) : Int)
def g_p43 : Nat → Int → Prop := fun j x => match j with | 2 => 0 ≤ x ∧ x ≤ 1 | _ => True
def g_p44 : Nat → Int → Prop := fun j x => match j with | 2 => 0 ≤ x ∧ x ≤ 1 | _ => True
def g_p45 : Nat → Int → Prop := fun j x => match j with | 2 => 0 ≤ x ∧ x ≤ 1 | _ => True
def g_p46 : Nat → Int → Prop := fun j x => match j with | 2 => 0 ≤ x ∧ x ≤ 1 | _ => True
def g_p47 : Nat → Int → Prop := fun j x => match j with | 2 => 0 ≤ x ∧ x ≤ 1 | _ => True
def g_p48 : Nat → Int → Prop := fun j x => match j with | 2 => 0 ≤ x ∧ x ≤ 1 | _ => True
def g_p49 : Nat → Int → Prop := fun j x => match j with | 2 => 0 ≤ x ∧ x ≤ 1 | _ => True
def g_p50 : Nat → Int → Prop := fun j x => match j with | 2 => 0 ≤ x ∧ x ≤ 1 | _ => True
def g_p51 : Nat → Int → Prop := fun j x => match j with | 2 => 0 ≤ x ∧ x ≤ 1 | _ => True
def g_p52 : Nat → Int → Prop := fun j x => match j with | 2 => 0 ≤ x ∧ x ≤ 1 | _ => True
def g_p53 : Nat → Int → Prop := fun j x => match j with | 2 => 0 ≤ x ∧ x ≤ 1 | _ => True
def g_p54 : Nat → Int → Prop := fun j x => match j with | 2 => 0 ≤ x ∧ x ≤ 1 | _ => True
def g_p55 : Nat → Int → Prop := fun j x => match j with | 2 => 0 ≤ x ∧ x ≤ 1 | _ => True
def g_p56 : Nat → Int → Prop := fun j x => match j with | 2 => 0 ≤ x ∧ x ≤ 1 | _ => True
def g_p57 : Nat → Int → Prop := fun j x => match j with | 2 => 0 ≤ x ∧ x ≤ 1 | _ => True
def g_p58 : Nat → Int → Prop := fun j x => match j with | 2 => 0 ≤ x ∧ x ≤ 1 | _ => True
def g_p59 : Nat → Int → Prop := fun j x => x = ((60 + j : Nat) : Int)
def g_p60 : Nat → Int → Prop := fun j x => match j with | 2 => 0 ≤ x ∧ x ≤ 1 | _ => True
def g_p61 : Nat → Int → Prop := fun j x => match j with | 2 => 0 ≤ x ∧ x ≤ 1 | _ => True
def g_p62 : Nat → Int → Prop := fun j x => match j with | 2 => 0 ≤ x ∧ x ≤ 1 | _ => True
def g_p63 : Nat → Int → Prop := fun j x => match j with | 2 => 0 ≤ x ∧ x ≤ 1 | _ => True
def g_p64 : Nat → Int → Prop := fun j x => match j with | 2 => 0 ≤ x ∧ x ≤ 1 | _ => True
def g_p65 : Nat → Int → Prop := fun j x => match j with | 2 => 0 ≤ x ∧ x ≤ 1 | _ => True
def g_p66 : Nat → Int → Prop := fun j x => match j with | 2 => 0 ≤ x ∧ x ≤ 1 | _ => True
def g_p67 : Nat → Int → Prop := fun j x => match j with | 2 => 0 ≤ x ∧ x ≤ 1 | _ => True
def g_p68 : Nat → Int → Prop := fun j x => match j with | 2 => 0 ≤ x ∧ x ≤ 1 | _ => True
def g_p69 : Nat → Int → Prop := fun j x => match j with | 2 => 0 ≤ x ∧ x ≤ 1 | _ => True
def g_p70 : Nat → Int → Prop := fun j x => match j with | 2 => 0 ≤ x ∧ x ≤ 1 | _ => True
def g_p71 : Nat → Int → Prop := fun j x => match j with | 2 => 0 ≤ x ∧ x ≤ 1 | _ => True
def g_p72 : Nat → Int → Prop := fun j x => match j with | 2 => 0 ≤ x ∧ x ≤ 1 | _ => True
def g_p73 : Nat → Int → Prop := fun j x => match j with | 2 => 0 ≤ x ∧ x ≤ 1 | _ => True
def g_p74 : Nat → Int → Prop := fun j x => match j with | 2 => 0 ≤ x ∧ x ≤ 1 | _ => True
def g_p75 : Nat → Int → Prop := fun j x => match j with | 2 => 0 ≤ x ∧ x ≤ 1 | _ => True
def g_p76 : Nat → Int → Prop := fun j x => x = ((77 + j : Nat) : Int)
def g_p77 : Nat → Int → Prop := fun j x => match j with | 2 => 0 ≤ x ∧ x ≤ 1 | _ => True
def g_p78 : Nat → Int → Prop := fun j x => match j with | 2 => 0 ≤ x ∧ x ≤ 1 | _ => True
def g_p79 : Nat → Int → Prop := fun j x => match j with | 2 => 0 ≤ x ∧ x ≤ 1 | _ => True
def g_p80 : Nat → Int → Prop := fun j x => match j with | 2 => 0 ≤ x ∧ x ≤ 1 | _ => True
def g_p81 : Nat → Int → Prop := fun j x => match j with | 2 => 0 ≤ x ∧ x ≤ 1 | _ => True
def g_p82 : Nat → Int → Prop := fun j x => match j with | 2 => 0 ≤ x ∧ x ≤ 1 | _ => True
def g_p83 : Nat → Int → Prop := fun j x => match j with | 2 => 0 ≤ x ∧ x ≤ 1 | _ => True
def g_p84 : Nat → Int → Prop := fun j x => match j with | 2 => 0 ≤ x ∧ x ≤ 1 | _ => True
def g_p85 : Nat → Int → Prop := fun j x => match j with | 2 => 0 ≤ x ∧ x ≤ 1 | _ => True
def g_p86 : Nat → Int → Prop := fun j x => match j with | 2 => 0 ≤ x ∧ x ≤ 1 | _ => True
def g_p87 : Nat → Int → Prop := fun j x => match j with | 2 => 0 ≤ x ∧ x ≤ 1 | _ => True
def g_p88 : Nat → Int → Prop := fun j x => match j with | 2 => 0 ≤ x ∧ x ≤ 1 | _ => True
def g_p89 : Nat → Int → Prop := fun j x => match j with | 2 => 0 ≤ x ∧ x ≤ 1 | _ => True
def g_p90 : Nat → Int → Prop := fun j x => match j with | 2 => 0 ≤ x ∧ x ≤ 1 | _ => True
def g_p91 : Nat → Int → Prop := fun j x => match j with | 2 => 0 ≤ x ∧ x ≤ 1 | _ => True
def g_p92 : Nat → Int → Prop := fun j x => match j with | 2 => 0 ≤ x ∧ x ≤ 1 | _ => True
def g_p93 : Nat → Int → Prop := fun j x => match j with | 0 => x = ((94 : Nat) : Int) | 1 => x = ((95 : Nat) : Int) | _ => True
def g_p94 : Nat → Int → Prop := fun j x => match j with | 2 => 0 ≤ x ∧ x ≤ 1 | _ => True
def g_p95 : Nat → Int → Prop := fun j x => match j with | 2 => 0 ≤ x ∧ x ≤ 1 | _ => True
def g_p96 : Nat → Int → Prop := fun j x => match j with | 0 => x = ((97 : Nat) : Int) | 1 => x = ((98 : Nat) : Int) | 2 => 0 ≤ x ∧ x ≤ 3 | 3 => 0 ≤ x ∧ x ≤ 1 | 4 => 0 ≤ x ∧ x ≤ 1 | _ => True
def g_p97 : Nat → Int → Prop := fun _ _ => True
def g_p98 : Nat → Int → Prop := fun _ _ => True
def g_p99 : Nat → Int → Prop := fun j x => match j with | 0 => x = ((100 : Nat) : Int) | _ => True
def g_p100 : Nat → Int → Prop := fun _ _ => True
def g_p101 : Nat → Int → Prop := fun j x => match j with | 0 => x = ((38 : Nat) : Int) | _ => True
def g_p102 : Nat → Int → Prop := fun j x => match j with | 0 => x = ((38 : Nat) : Int) | 1 => x = ((103 : Nat) : Int) | 2 => x = ((104 : Nat) : Int) | 3 => 0 ≤ x ∧ x ≤ 3 | _ => True
def g_p103 : Nat → Int → Prop := fun _ x => 0 ≤ x ∧ x ≤ 31
def g_p104 : Nat → Int → Prop := fun _ _ => True
def g_p105 : Nat → Int → Prop := fun j x => match j with | 0 => x = ((106 : Nat) : Int) | 1 => 0 ≤ x ∧ x ≤ 1 | _ => True
def g_p106 : Nat → Int → Prop := fun _ x => 0 ≤ x ∧ x ≤ 3
def g_p107 : Nat → Int → Prop := fun _ _ => True
def g_p108 : Nat → Int → Prop := fun j x => match j with | 2 => x = ((109 : Nat) : Int) | 3 => x = ((110 : Nat) : Int) | 4 => x = ((111 : Nat) : Int) | 5 => x = ((112 : Nat) : Int) | 7 => x = ((113 : Nat) : Int) | 8 => 0 ≤ x ∧ x ≤ 400 | 9 => 0 ≤ x ∧ x ≤ 400 | 10 => 0 ≤ x ∧ x ≤ 400 | 11 => 0 ≤ x ∧ x ≤ 3 | 14 => 0 ≤ x ∧ x ≤ 1 | 15 => x = ((114 : Nat) : Int) | 16 => 0 ≤ x ∧ x ≤ 200 | 17 => 0 ≤ x ∧ x ≤ 24 | 18 => 0 ≤ x ∧ x ≤ 6 | 19 => x = ((115 : Nat) : Int) | 20 => x = ((116 : Nat) : Int) | 21 => 0 ≤ x ∧ x ≤ 60 | 22 => x = ((117 : Nat) : Int) | 23 => x = ((118 : Nat) : Int) | 24 => x = ((119 : Nat) : Int) | 25 => x = ((120 : Nat) : Int) | 26 => x = ((121 : Nat) : Int) | 27 => x = ((122 : Nat) : Int) | 28 => x = ((123 : Nat) : Int) | 29 => x = ((124 : Nat) : Int) | 30 => x = ((125 : Nat) : Int) | 31 => x = ((126 : Nat) : Int) | 32 => x = ((127 : Nat) : Int) | 33 => x = ((128 : Nat) : Int) | 34 => x = ((129 : Nat) : Int) | 35 => x = ((130 : Nat) : Int) | 36 => x = ((131 : Nat) : Int) | 37 => x = ((132 : Nat) : Int) | 38 => x = ((133 : Nat) : Int) | 39 => x = ((134 : Nat) : Int) | 40 => x = ((135 : Nat) : Int) | 41 => x = ((136 : Nat) : Int) | 42 => x = ((137 : Nat) : Int) | 43 => x = ((138 : Nat) : Int) | 44 => 0 ≤ x ∧ x ≤ 1 | 45 => 0 ≤ x ∧ x ≤ 1 | 46 => 0 ≤ x ∧ x ≤ 1 | 47 => 0 ≤ x ∧ x ≤ 1 | 48 => x = ((139 : Nat) : Int) | 49 => x = ((140 : Nat) : Int) | 50 => x = ((141 : Nat) : Int) | 51 => x = ((142 : Nat) : Int) | 52 => x = ((143 : Nat) : Int) | 53 => x = ((144 : Nat) : Int) | 54 => 0 ≤ x ∧ x ≤ 1 | 55 => 0 ≤ x ∧ x ≤ 1 | 56 => x = ((145 : Nat) : Int) | 57 => x = ((146 : Nat) : Int) | 58 => 0 ≤ x ∧ x ≤ 3 | 59 => x = ((147 : Nat) : Int) | 60 => 0 ≤ x ∧ x ≤ 1 | 61 => -1 ≤ x ∧ x ≤ 31 | 62 => -1 ≤ x ∧ x ≤ 31 | _ => True
def g_p109 : Nat → Int → Prop := fun _ _ => True
def g_p110 : Nat → Int → Prop := fun j x => r_lo j ≤ x ∧ x ≤ r_hi j
def g_p111 : Nat → Int → Prop := fun _ _ => True
def g_p112 : Nat → Int → Prop := fun _ x => 0 ≤ x ∧ x ≤ 1
def g_p113 : Nat → Int → Prop := fun _ x => 0 ≤ x ∧ x ≤ 255
def g_p114 : Nat → Int → Prop := fun _ _ => True
def g_p115 : Nat → Int → Prop := fun _ _ => True
def g_p116 : Nat → Int → Prop := fun _ _ => True
def g_p117 : Nat → Int → Prop := fun _ x => 0 ≤ x ∧ x ≤ 15
def g_p118 : Nat → Int → Prop := fun _ x => 0 ≤ x ∧ x ≤ 15
def g_p119 : Nat → Int → Prop := fun _ x => 0 ≤ x ∧ x ≤ 199
def g_p120 : Nat → Int → Prop := fun _ x => 0 ≤ x ∧ x ≤ 199
def g_p121 : Nat → Int → Prop := fun _ x => 0 ≤ x ∧ x ≤ 1
def g_p122 : Nat → Int → Prop := fun _ x => -1 ≤ x ∧ x ≤ 3
def g_p123 : Nat → Int → Prop := fun _ x => -1 ≤ x ∧ x ≤ 31
def g_p124 : Nat → Int → Prop := fun _ x => 0 ≤ x ∧ x ≤ 99999999
def g_p125 : Nat → Int → Prop := fun _ x => 0 ≤ x ∧ x ≤ 99999999
def g_p126 : Nat → Int → Prop := fun _ x => 0 ≤ x ∧ x ≤ 1
def g_p127 : Nat → Int → Prop := fun _ x => 0 ≤ x ∧ x ≤ 1
def g_p128 : Nat → Int → Prop := fun _ x => 0 ≤ x ∧ x ≤ 99999999
def g_p129 : Nat → Int → Prop := fun _ x => 0 ≤ x ∧ x ≤ 99999999
def g_p130 : Nat → Int → Prop := fun _ x => 0 ≤ x ∧ x ≤ 1
def g_p131 : Nat → Int → Prop := fun _ x => 0 ≤ x ∧ x ≤ 1
def g_p132 : Nat → Int → Prop := fun _ x => 0 ≤ x ∧ x ≤ 99999999
def g_p133 : Nat → Int → Prop := fun _ x => 0 ≤ x ∧ x ≤ 99999999
def g_p134 : Nat → Int → Prop := fun _ x => 0 ≤ x ∧ x ≤ 1
def g_p135 : Nat → Int → Prop := fun _ _ => True
def g_p136 : Nat → Int → Prop := fun _ _ => True
def g_p137 : Nat → Int → Prop := fun _ x => 0 ≤ x ∧ x ≤ 1
def g_p138 : Nat → Int → Prop := fun _ x => 0 ≤ x ∧ x ≤ 99999999
def g_p139 : Nat → Int → Prop := fun _ _ => True
def g_p140 : Nat → Int → Prop := fun _ _ => True
def g_p141 : Nat → Int → Prop := fun _ _ => True
def g_p142 : Nat → Int → Prop := fun _ _ => True
def g_p143 : Nat → Int → Prop := fun _ _ => True
def g_p144 : Nat → Int → Prop := fun _ _ => True
def g_p145 : Nat → Int → Prop := fun _ x => 0 ≤ x ∧ x ≤ 15
def g_p146 : Nat → Int → Prop := fun _ x => 0 ≤ x ∧ x ≤ 31
def g_p147 : Nat → Int → Prop := fun _ x => 0 ≤ x ∧ x ≤ 3
def g_bt : List (Nat × (Nat → Int → Prop)) := [(17, g_p0), (10, g_p1), (32, g_p2), (6, g_p3), (24, g_p4), (24, g_p5), (24, g_p6), (24, g_p7), (16, g_p8), (10, g_p9), (32, g_p10), (6, g_p11), (24, g_p12), (24, g_p13), (24, g_p14), (24, g_p15), (16, g_p16), (2, g_p17), (10, g_p18), (32, g_p19), (6, g_p20), (24, g_p21), (24, g_p22), (24, g_p23), (24, g_p24), (16, g_p25), (10, g_p26), (32, g_p27), (6, g_p28), (24, g_p29), (24, g_p30), (24, g_p31), (24, g_p32), (16, g_p33), (2, g_p34), (2, g_p35), (400, g_p36), (4, g_p37), (6, g_p38), (48, g_p39), (48, g_p40), (48, g_p41), (16, g_p42), (3, g_p43), (3, g_p44), (3, g_p45), (3, g_p46), (3, g_p47), (3, g_p48), (3, g_p49), (3, g_p50), (3, g_p51), (3, g_p52), (3, g_p53), (3, g_p54), (3, g_p55), (3, g_p56), (3, g_p57), (3, g_p58), (16, g_p59), (3, g_p60), (3, g_p61), (3, g_p62), (3, g_p63), (3, g_p64), (3, g_p65), (3, g_p66), (3, g_p67), (3, g_p68), (3, g_p69), (3, g_p70), (3, g_p71), (3, g_p72), (3, g_p73), (3, g_p74), (3, g_p75), (16, g_p76), (3, g_p77), (3, g_p78), (3, g_p79), (3, g_p80), (3, g_p81), (3, g_p82), (3, g_p83), (3, g_p84), (3, g_p85), (3, g_p86), (3, g_p87), (3, g_p88), (3, g_p89), (3, g_p90), (3, g_p91), (3, g_p92), (2, g_p93), (3, g_p94), (3, g_p95), (5, g_p96), (3, g_p97), (3, g_p98), (1, g_p99), (16, g_p100), (4, g_p101), (5, g_p102), (3, g_p103), (12, g_p104), (4, g_p105), (32, g_p106), (5, g_p107), (63, g_p108), (7, g_p109), (200, g_p110), (400, g_p111), (2, g_p112), (400, g_p113), (1000, g_p114), (10, g_p115), (10, g_p116), (60, g_p117), (60, g_p118), (60, g_p119), (60, g_p120), (60, g_p121), (32, g_p122), (6, g_p123), (80, g_p124), (80, g_p125), (16, g_p126), (16, g_p127), (80, g_p128), (80, g_p129), (16, g_p130), (16, g_p131), (5, g_p132), (5, g_p133), (256, g_p134), (10, g_p135), (10, g_p136), (5, g_p137), (20, g_p138), (10, g_p139), (10, g_p140), (10, g_p141), (10, g_p142), (3, g_p143), (3, g_p144), (16, g_p145), (3, g_p146), (32, g_p147)]
def g_X (h : m_H) : Prop := ∀ k, k < 2 → h 112 k ≠ 0 → ∀ i, i < 200 → r_lo i ≤ h 111 (200 * k + i) ∧ h 111 (200 * k + i) ≤ r_hi i
def GI (h : m_H) : Prop := (∀ (k : Nat) (q : Nat × (Nat → Int → Prop)), g_bt[k]? = some q → ∀ j, j < q.1 → q.2 j (h k j)) ∧ g_X h
theorem GI.up {h : m_H} {k j : Nat} {v : Int} {q : Nat × (Nat → Int → Prop)} (G : GI h) (hk : g_bt[k]? = some q) (hv : q.2 j v) (hne : k ≠ 111 ∧ k ≠ 112) : GI (m_up h k j v) := by
  refine ⟨fun a p ha b hb => ?_, fun a ha z i hi => ?_⟩
  · by_cases hab : a = k ∧ b = j
    · obtain ⟨rfl, rfl⟩ := hab
      cases hk.symm.trans ha
      rw [m_up_eq]; exact hv
    · rw [m_up_ne hab]; exact G.1 a p ha b hb
  · rw [m_up_ne1 (Ne.symm hne.2)] at z
    rw [m_up_ne1 (Ne.symm hne.1)]
    exact G.2 a ha z i hi
theorem g_0_0 {h : m_H} (G : GI h) : h 0 0 = ((1 : Nat) : Int) := G.1 0 (17, g_p0) rfl 0 (by decide)
theorem g_0_1 {h : m_H} (G : GI h) : h 0 1 = ((9 : Nat) : Int) := G.1 0 (17, g_p0) rfl 1 (by decide)
theorem g_0_2 {h : m_H} (G : GI h) : h 0 2 = ((17 : Nat) : Int) := G.1 0 (17, g_p0) rfl 2 (by decide)
theorem g_0_3 {h : m_H} (G : GI h) : h 0 3 = ((34 : Nat) : Int) := G.1 0 (17, g_p0) rfl 3 (by decide)
theorem g_0_4 {h : m_H} (G : GI h) : h 0 4 = ((35 : Nat) : Int) := G.1 0 (17, g_p0) rfl 4 (by decide)
theorem g_0_5 {h : m_H} (G : GI h) : h 0 5 = ((37 : Nat) : Int) := G.1 0 (17, g_p0) rfl 5 (by decide)
theorem g_0_6 {h : m_H} (G : GI h) : h 0 6 = ((38 : Nat) : Int) := G.1 0 (17, g_p0) rfl 6 (by decide)
theorem g_0_7 {h : m_H} (G : GI h) : h 0 7 = ((93 : Nat) : Int) := G.1 0 (17, g_p0) rfl 7 (by decide)
theorem g_0_8 {h : m_H} (G : GI h) : h 0 8 = ((96 : Nat) : Int) := G.1 0 (17, g_p0) rfl 8 (by decide)
theorem g_0_9 {h : m_H} (G : GI h) : h 0 9 = ((99 : Nat) : Int) := G.1 0 (17, g_p0) rfl 9 (by decide)
theorem g_0_10 {h : m_H} (G : GI h) : h 0 10 = ((101 : Nat) : Int) := G.1 0 (17, g_p0) rfl 10 (by decide)
theorem g_0_11 {h : m_H} (G : GI h) : h 0 11 = ((102 : Nat) : Int) := G.1 0 (17, g_p0) rfl 11 (by decide)
theorem g_0_12 {h : m_H} (G : GI h) : h 0 12 = ((105 : Nat) : Int) := G.1 0 (17, g_p0) rfl 12 (by decide)
theorem g_0_13 {h : m_H} (G : GI h) : h 0 13 = ((107 : Nat) : Int) := G.1 0 (17, g_p0) rfl 13 (by decide)
theorem u_0_14 {h : m_H} (G : GI h) {v : Int} : GI (m_up h 0 14 v) := G.up (q := (17, g_p0)) rfl trivial (by decide)
theorem u_0_15 {h : m_H} (G : GI h) {v : Int} : GI (m_up h 0 15 v) := G.up (q := (17, g_p0)) rfl trivial (by decide)
theorem u_0_16 {h : m_H} (G : GI h) {v : Int} : GI (m_up h 0 16 v) := G.up (q := (17, g_p0)) rfl trivial (by decide)
theorem g_1_0 {h : m_H} (G : GI h) : h 1 0 = ((2 : Nat) : Int) := G.1 1 (10, g_p1) rfl 0 (by decide)
theorem g_1_1 {h : m_H} (G : GI h) : h 1 1 = ((3 : Nat) : Int) := G.1 1 (10, g_p1) rfl 1 (by decide)
theorem g_1_2 {h : m_H} (G : GI h) : h 1 2 = ((4 : Nat) : Int) := G.1 1 (10, g_p1) rfl 2 (by decide)
theorem g_1_3 {h : m_H} (G : GI h) : h 1 3 = ((5 : Nat) : Int) := G.1 1 (10, g_p1) rfl 3 (by decide)
theorem g_1_4 {h : m_H} (G : GI h) : h 1 4 = ((6 : Nat) : Int) := G.1 1 (10, g_p1) rfl 4 (by decide)
theorem g_1_5 {h : m_H} (G : GI h) : h 1 5 = ((7 : Nat) : Int) := G.1 1 (10, g_p1) rfl 5 (by decide)
theorem g_1_6 {h : m_H} (G : GI h) : h 1 6 = ((8 : Nat) : Int) := G.1 1 (10, g_p1) rfl 6 (by decide)
theorem g_1_7 {h : m_H} (G : GI h) : (0 : Int) ≤ h 1 7 ∧ h 1 7 ≤ 24 := G.1 1 (10, g_p1) rfl 7 (by decide)
theorem u_1_7 {h : m_H} (G : GI h) {v : Int} (h1 : (0 : Int) ≤ v) (h2 : v ≤ 24) : GI (m_up h 1 7 v) := G.up (q := (10, g_p1)) rfl ⟨h1, h2⟩ (by decide)
theorem u_1_8 {h : m_H} (G : GI h) {v : Int} : GI (m_up h 1 8 v) := G.up (q := (10, g_p1)) rfl trivial (by decide)
theorem u_1_9 {h : m_H} (G : GI h) {v : Int} : GI (m_up h 1 9 v) := G.up (q := (10, g_p1)) rfl trivial (by decide)
theorem g_2 {h : m_H} (G : GI h) {j : Nat} (hj : j < 32) : (-1 : Int) ≤ h 2 j ∧ h 2 j ≤ 3 := G.1 2 (32, g_p2) rfl j hj
theorem u_2 {h : m_H} (G : GI h) {j : Nat} {v : Int} (h1 : (-1 : Int) ≤ v) (h2 : v ≤ 3) : GI (m_up h 2 j v) := G.up (q := (32, g_p2)) rfl ⟨h1, h2⟩ (by decide)
theorem g_3 {h : m_H} (G : GI h) {j : Nat} (hj : j < 6) : (-1 : Int) ≤ h 3 j ∧ h 3 j ≤ 31 := G.1 3 (6, g_p3) rfl j hj
theorem u_3 {h : m_H} (G : GI h) {j : Nat} {v : Int} (h1 : (-1 : Int) ≤ v) (h2 : v ≤ 31) : GI (m_up h 3 j v) := G.up (q := (6, g_p3)) rfl ⟨h1, h2⟩ (by decide)
theorem g_4 {h : m_H} (G : GI h) {j : Nat} (hj : j < 24) : (0 : Int) ≤ h 4 j ∧ h 4 j ≤ 5 := G.1 4 (24, g_p4) rfl j hj
theorem u_4 {h : m_H} (G : GI h) {j : Nat} {v : Int} (h1 : (0 : Int) ≤ v) (h2 : v ≤ 5) : GI (m_up h 4 j v) := G.up (q := (24, g_p4)) rfl ⟨h1, h2⟩ (by decide)
theorem g_5 {h : m_H} (G : GI h) {j : Nat} (hj : j < 24) : (0 : Int) ≤ h 5 j ∧ h 5 j ≤ 31 := G.1 5 (24, g_p5) rfl j hj
theorem u_5 {h : m_H} (G : GI h) {j : Nat} {v : Int} (h1 : (0 : Int) ≤ v) (h2 : v ≤ 31) : GI (m_up h 5 j v) := G.up (q := (24, g_p5)) rfl ⟨h1, h2⟩ (by decide)
theorem g_6 {h : m_H} (G : GI h) {j : Nat} (hj : j < 24) : (0 : Int) ≤ h 6 j ∧ h 6 j ≤ 99 := G.1 6 (24, g_p6) rfl j hj
theorem u_6 {h : m_H} (G : GI h) {j : Nat} {v : Int} (h1 : (0 : Int) ≤ v) (h2 : v ≤ 99) : GI (m_up h 6 j v) := G.up (q := (24, g_p6)) rfl ⟨h1, h2⟩ (by decide)
theorem g_7 {h : m_H} (G : GI h) {j : Nat} (hj : j < 24) : (0 : Int) ≤ h 7 j ∧ h 7 j ≤ 2 := G.1 7 (24, g_p7) rfl j hj
theorem u_7 {h : m_H} (G : GI h) {j : Nat} {v : Int} (h1 : (0 : Int) ≤ v) (h2 : v ≤ 2) : GI (m_up h 7 j v) := G.up (q := (24, g_p7)) rfl ⟨h1, h2⟩ (by decide)
theorem g_8 {h : m_H} (G : GI h) {j : Nat} (hj : j < 16) : (1 : Int) ≤ h 8 j ∧ h 8 j ≤ 9999 := G.1 8 (16, g_p8) rfl j hj
theorem u_8 {h : m_H} (G : GI h) {j : Nat} {v : Int} (h1 : (1 : Int) ≤ v) (h2 : v ≤ 9999) : GI (m_up h 8 j v) := G.up (q := (16, g_p8)) rfl ⟨h1, h2⟩ (by decide)
theorem g_9_0 {h : m_H} (G : GI h) : h 9 0 = ((10 : Nat) : Int) := G.1 9 (10, g_p9) rfl 0 (by decide)
theorem g_9_1 {h : m_H} (G : GI h) : h 9 1 = ((11 : Nat) : Int) := G.1 9 (10, g_p9) rfl 1 (by decide)
theorem g_9_2 {h : m_H} (G : GI h) : h 9 2 = ((12 : Nat) : Int) := G.1 9 (10, g_p9) rfl 2 (by decide)
theorem g_9_3 {h : m_H} (G : GI h) : h 9 3 = ((13 : Nat) : Int) := G.1 9 (10, g_p9) rfl 3 (by decide)
theorem g_9_4 {h : m_H} (G : GI h) : h 9 4 = ((14 : Nat) : Int) := G.1 9 (10, g_p9) rfl 4 (by decide)
theorem g_9_5 {h : m_H} (G : GI h) : h 9 5 = ((15 : Nat) : Int) := G.1 9 (10, g_p9) rfl 5 (by decide)
theorem g_9_6 {h : m_H} (G : GI h) : h 9 6 = ((16 : Nat) : Int) := G.1 9 (10, g_p9) rfl 6 (by decide)
theorem g_9_7 {h : m_H} (G : GI h) : (0 : Int) ≤ h 9 7 ∧ h 9 7 ≤ 24 := G.1 9 (10, g_p9) rfl 7 (by decide)
theorem u_9_7 {h : m_H} (G : GI h) {v : Int} (h1 : (0 : Int) ≤ v) (h2 : v ≤ 24) : GI (m_up h 9 7 v) := G.up (q := (10, g_p9)) rfl ⟨h1, h2⟩ (by decide)
theorem u_9_8 {h : m_H} (G : GI h) {v : Int} : GI (m_up h 9 8 v) := G.up (q := (10, g_p9)) rfl trivial (by decide)
theorem u_9_9 {h : m_H} (G : GI h) {v : Int} : GI (m_up h 9 9 v) := G.up (q := (10, g_p9)) rfl trivial (by decide)
theorem g_10 {h : m_H} (G : GI h) {j : Nat} (hj : j < 32) : (-1 : Int) ≤ h 10 j ∧ h 10 j ≤ 3 := G.1 10 (32, g_p10) rfl j hj
theorem u_10 {h : m_H} (G : GI h) {j : Nat} {v : Int} (h1 : (-1 : Int) ≤ v) (h2 : v ≤ 3) : GI (m_up h 10 j v) := G.up (q := (32, g_p10)) rfl ⟨h1, h2⟩ (by decide)
theorem g_11 {h : m_H} (G : GI h) {j : Nat} (hj : j < 6) : (-1 : Int) ≤ h 11 j ∧ h 11 j ≤ 31 := G.1 11 (6, g_p11) rfl j hj
theorem u_11 {h : m_H} (G : GI h) {j : Nat} {v : Int} (h1 : (-1 : Int) ≤ v) (h2 : v ≤ 31) : GI (m_up h 11 j v) := G.up (q := (6, g_p11)) rfl ⟨h1, h2⟩ (by decide)
theorem g_12 {h : m_H} (G : GI h) {j : Nat} (hj : j < 24) : (0 : Int) ≤ h 12 j ∧ h 12 j ≤ 5 := G.1 12 (24, g_p12) rfl j hj
theorem u_12 {h : m_H} (G : GI h) {j : Nat} {v : Int} (h1 : (0 : Int) ≤ v) (h2 : v ≤ 5) : GI (m_up h 12 j v) := G.up (q := (24, g_p12)) rfl ⟨h1, h2⟩ (by decide)
theorem g_13 {h : m_H} (G : GI h) {j : Nat} (hj : j < 24) : (0 : Int) ≤ h 13 j ∧ h 13 j ≤ 31 := G.1 13 (24, g_p13) rfl j hj
theorem u_13 {h : m_H} (G : GI h) {j : Nat} {v : Int} (h1 : (0 : Int) ≤ v) (h2 : v ≤ 31) : GI (m_up h 13 j v) := G.up (q := (24, g_p13)) rfl ⟨h1, h2⟩ (by decide)
theorem g_14 {h : m_H} (G : GI h) {j : Nat} (hj : j < 24) : (0 : Int) ≤ h 14 j ∧ h 14 j ≤ 99 := G.1 14 (24, g_p14) rfl j hj
theorem u_14 {h : m_H} (G : GI h) {j : Nat} {v : Int} (h1 : (0 : Int) ≤ v) (h2 : v ≤ 99) : GI (m_up h 14 j v) := G.up (q := (24, g_p14)) rfl ⟨h1, h2⟩ (by decide)
theorem g_15 {h : m_H} (G : GI h) {j : Nat} (hj : j < 24) : (0 : Int) ≤ h 15 j ∧ h 15 j ≤ 2 := G.1 15 (24, g_p15) rfl j hj
theorem u_15 {h : m_H} (G : GI h) {j : Nat} {v : Int} (h1 : (0 : Int) ≤ v) (h2 : v ≤ 2) : GI (m_up h 15 j v) := G.up (q := (24, g_p15)) rfl ⟨h1, h2⟩ (by decide)
theorem g_16 {h : m_H} (G : GI h) {j : Nat} (hj : j < 16) : (1 : Int) ≤ h 16 j ∧ h 16 j ≤ 9999 := G.1 16 (16, g_p16) rfl j hj
theorem u_16 {h : m_H} (G : GI h) {j : Nat} {v : Int} (h1 : (1 : Int) ≤ v) (h2 : v ≤ 9999) : GI (m_up h 16 j v) := G.up (q := (16, g_p16)) rfl ⟨h1, h2⟩ (by decide)
theorem g_17 {h : m_H} (G : GI h) {j : Nat} (hj : j < 2) : h 17 j = ((18 + 8 * j : Nat) : Int) := G.1 17 (2, g_p17) rfl j hj
theorem g_18_0 {h : m_H} (G : GI h) : h 18 0 = ((19 : Nat) : Int) := G.1 18 (10, g_p18) rfl 0 (by decide)
theorem g_18_1 {h : m_H} (G : GI h) : h 18 1 = ((20 : Nat) : Int) := G.1 18 (10, g_p18) rfl 1 (by decide)
theorem g_18_2 {h : m_H} (G : GI h) : h 18 2 = ((21 : Nat) : Int) := G.1 18 (10, g_p18) rfl 2 (by decide)
theorem g_18_3 {h : m_H} (G : GI h) : h 18 3 = ((22 : Nat) : Int) := G.1 18 (10, g_p18) rfl 3 (by decide)
theorem g_18_4 {h : m_H} (G : GI h) : h 18 4 = ((23 : Nat) : Int) := G.1 18 (10, g_p18) rfl 4 (by decide)
theorem g_18_5 {h : m_H} (G : GI h) : h 18 5 = ((24 : Nat) : Int) := G.1 18 (10, g_p18) rfl 5 (by decide)
theorem g_18_6 {h : m_H} (G : GI h) : h 18 6 = ((25 : Nat) : Int) := G.1 18 (10, g_p18) rfl 6 (by decide)
theorem g_18_7 {h : m_H} (G : GI h) : (0 : Int) ≤ h 18 7 ∧ h 18 7 ≤ 24 := G.1 18 (10, g_p18) rfl 7 (by decide)
theorem u_18_7 {h : m_H} (G : GI h) {v : Int} (h1 : (0 : Int) ≤ v) (h2 : v ≤ 24) : GI (m_up h 18 7 v) := G.up (q := (10, g_p18)) rfl ⟨h1, h2⟩ (by decide)
theorem u_18_8 {h : m_H} (G : GI h) {v : Int} : GI (m_up h 18 8 v) := G.up (q := (10, g_p18)) rfl trivial (by decide)
theorem u_18_9 {h : m_H} (G : GI h) {v : Int} : GI (m_up h 18 9 v) := G.up (q := (10, g_p18)) rfl trivial (by decide)
theorem g_19 {h : m_H} (G : GI h) {j : Nat} (hj : j < 32) : (-1 : Int) ≤ h 19 j ∧ h 19 j ≤ 3 := G.1 19 (32, g_p19) rfl j hj
theorem u_19 {h : m_H} (G : GI h) {j : Nat} {v : Int} (h1 : (-1 : Int) ≤ v) (h2 : v ≤ 3) : GI (m_up h 19 j v) := G.up (q := (32, g_p19)) rfl ⟨h1, h2⟩ (by decide)
theorem g_20 {h : m_H} (G : GI h) {j : Nat} (hj : j < 6) : (-1 : Int) ≤ h 20 j ∧ h 20 j ≤ 31 := G.1 20 (6, g_p20) rfl j hj
theorem u_20 {h : m_H} (G : GI h) {j : Nat} {v : Int} (h1 : (-1 : Int) ≤ v) (h2 : v ≤ 31) : GI (m_up h 20 j v) := G.up (q := (6, g_p20)) rfl ⟨h1, h2⟩ (by decide)
theorem g_21 {h : m_H} (G : GI h) {j : Nat} (hj : j < 24) : (0 : Int) ≤ h 21 j ∧ h 21 j ≤ 5 := G.1 21 (24, g_p21) rfl j hj
theorem u_21 {h : m_H} (G : GI h) {j : Nat} {v : Int} (h1 : (0 : Int) ≤ v) (h2 : v ≤ 5) : GI (m_up h 21 j v) := G.up (q := (24, g_p21)) rfl ⟨h1, h2⟩ (by decide)
theorem g_22 {h : m_H} (G : GI h) {j : Nat} (hj : j < 24) : (0 : Int) ≤ h 22 j ∧ h 22 j ≤ 31 := G.1 22 (24, g_p22) rfl j hj
theorem u_22 {h : m_H} (G : GI h) {j : Nat} {v : Int} (h1 : (0 : Int) ≤ v) (h2 : v ≤ 31) : GI (m_up h 22 j v) := G.up (q := (24, g_p22)) rfl ⟨h1, h2⟩ (by decide)
theorem g_23 {h : m_H} (G : GI h) {j : Nat} (hj : j < 24) : (0 : Int) ≤ h 23 j ∧ h 23 j ≤ 99 := G.1 23 (24, g_p23) rfl j hj
theorem u_23 {h : m_H} (G : GI h) {j : Nat} {v : Int} (h1 : (0 : Int) ≤ v) (h2 : v ≤ 99) : GI (m_up h 23 j v) := G.up (q := (24, g_p23)) rfl ⟨h1, h2⟩ (by decide)
theorem g_24 {h : m_H} (G : GI h) {j : Nat} (hj : j < 24) : (0 : Int) ≤ h 24 j ∧ h 24 j ≤ 2 := G.1 24 (24, g_p24) rfl j hj
theorem u_24 {h : m_H} (G : GI h) {j : Nat} {v : Int} (h1 : (0 : Int) ≤ v) (h2 : v ≤ 2) : GI (m_up h 24 j v) := G.up (q := (24, g_p24)) rfl ⟨h1, h2⟩ (by decide)
theorem g_25 {h : m_H} (G : GI h) {j : Nat} (hj : j < 16) : (1 : Int) ≤ h 25 j ∧ h 25 j ≤ 9999 := G.1 25 (16, g_p25) rfl j hj
theorem u_25 {h : m_H} (G : GI h) {j : Nat} {v : Int} (h1 : (1 : Int) ≤ v) (h2 : v ≤ 9999) : GI (m_up h 25 j v) := G.up (q := (16, g_p25)) rfl ⟨h1, h2⟩ (by decide)
theorem g_26_0 {h : m_H} (G : GI h) : h 26 0 = ((27 : Nat) : Int) := G.1 26 (10, g_p26) rfl 0 (by decide)
theorem g_26_1 {h : m_H} (G : GI h) : h 26 1 = ((28 : Nat) : Int) := G.1 26 (10, g_p26) rfl 1 (by decide)
theorem g_26_2 {h : m_H} (G : GI h) : h 26 2 = ((29 : Nat) : Int) := G.1 26 (10, g_p26) rfl 2 (by decide)
theorem g_26_3 {h : m_H} (G : GI h) : h 26 3 = ((30 : Nat) : Int) := G.1 26 (10, g_p26) rfl 3 (by decide)
theorem g_26_4 {h : m_H} (G : GI h) : h 26 4 = ((31 : Nat) : Int) := G.1 26 (10, g_p26) rfl 4 (by decide)
theorem g_26_5 {h : m_H} (G : GI h) : h 26 5 = ((32 : Nat) : Int) := G.1 26 (10, g_p26) rfl 5 (by decide)
theorem g_26_6 {h : m_H} (G : GI h) : h 26 6 = ((33 : Nat) : Int) := G.1 26 (10, g_p26) rfl 6 (by decide)
theorem g_26_7 {h : m_H} (G : GI h) : (0 : Int) ≤ h 26 7 ∧ h 26 7 ≤ 24 := G.1 26 (10, g_p26) rfl 7 (by decide)
theorem u_26_7 {h : m_H} (G : GI h) {v : Int} (h1 : (0 : Int) ≤ v) (h2 : v ≤ 24) : GI (m_up h 26 7 v) := G.up (q := (10, g_p26)) rfl ⟨h1, h2⟩ (by decide)
theorem u_26_8 {h : m_H} (G : GI h) {v : Int} : GI (m_up h 26 8 v) := G.up (q := (10, g_p26)) rfl trivial (by decide)
theorem u_26_9 {h : m_H} (G : GI h) {v : Int} : GI (m_up h 26 9 v) := G.up (q := (10, g_p26)) rfl trivial (by decide)
theorem g_27 {h : m_H} (G : GI h) {j : Nat} (hj : j < 32) : (-1 : Int) ≤ h 27 j ∧ h 27 j ≤ 3 := G.1 27 (32, g_p27) rfl j hj
theorem u_27 {h : m_H} (G : GI h) {j : Nat} {v : Int} (h1 : (-1 : Int) ≤ v) (h2 : v ≤ 3) : GI (m_up h 27 j v) := G.up (q := (32, g_p27)) rfl ⟨h1, h2⟩ (by decide)
theorem g_28 {h : m_H} (G : GI h) {j : Nat} (hj : j < 6) : (-1 : Int) ≤ h 28 j ∧ h 28 j ≤ 31 := G.1 28 (6, g_p28) rfl j hj
theorem u_28 {h : m_H} (G : GI h) {j : Nat} {v : Int} (h1 : (-1 : Int) ≤ v) (h2 : v ≤ 31) : GI (m_up h 28 j v) := G.up (q := (6, g_p28)) rfl ⟨h1, h2⟩ (by decide)
theorem g_29 {h : m_H} (G : GI h) {j : Nat} (hj : j < 24) : (0 : Int) ≤ h 29 j ∧ h 29 j ≤ 5 := G.1 29 (24, g_p29) rfl j hj
theorem u_29 {h : m_H} (G : GI h) {j : Nat} {v : Int} (h1 : (0 : Int) ≤ v) (h2 : v ≤ 5) : GI (m_up h 29 j v) := G.up (q := (24, g_p29)) rfl ⟨h1, h2⟩ (by decide)
theorem g_30 {h : m_H} (G : GI h) {j : Nat} (hj : j < 24) : (0 : Int) ≤ h 30 j ∧ h 30 j ≤ 31 := G.1 30 (24, g_p30) rfl j hj
theorem u_30 {h : m_H} (G : GI h) {j : Nat} {v : Int} (h1 : (0 : Int) ≤ v) (h2 : v ≤ 31) : GI (m_up h 30 j v) := G.up (q := (24, g_p30)) rfl ⟨h1, h2⟩ (by decide)
theorem g_31 {h : m_H} (G : GI h) {j : Nat} (hj : j < 24) : (0 : Int) ≤ h 31 j ∧ h 31 j ≤ 99 := G.1 31 (24, g_p31) rfl j hj
theorem u_31 {h : m_H} (G : GI h) {j : Nat} {v : Int} (h1 : (0 : Int) ≤ v) (h2 : v ≤ 99) : GI (m_up h 31 j v) := G.up (q := (24, g_p31)) rfl ⟨h1, h2⟩ (by decide)
theorem g_32 {h : m_H} (G : GI h) {j : Nat} (hj : j < 24) : (0 : Int) ≤ h 32 j ∧ h 32 j ≤ 2 := G.1 32 (24, g_p32) rfl j hj
theorem u_32 {h : m_H} (G : GI h) {j : Nat} {v : Int} (h1 : (0 : Int) ≤ v) (h2 : v ≤ 2) : GI (m_up h 32 j v) := G.up (q := (24, g_p32)) rfl ⟨h1, h2⟩ (by decide)
theorem g_33 {h : m_H} (G : GI h) {j : Nat} (hj : j < 16) : (1 : Int) ≤ h 33 j ∧ h 33 j ≤ 9999 := G.1 33 (16, g_p33) rfl j hj
theorem u_33 {h : m_H} (G : GI h) {j : Nat} {v : Int} (h1 : (1 : Int) ≤ v) (h2 : v ≤ 9999) : GI (m_up h 33 j v) := G.up (q := (16, g_p33)) rfl ⟨h1, h2⟩ (by decide)
theorem g_34 {h : m_H} (G : GI h) {j : Nat} (hj : j < 2) : (0 : Int) ≤ h 34 j ∧ h 34 j ≤ 1 := G.1 34 (2, g_p34) rfl j hj
theorem u_34 {h : m_H} (G : GI h) {j : Nat} {v : Int} (h1 : (0 : Int) ≤ v) (h2 : v ≤ 1) : GI (m_up h 34 j v) := G.up (q := (2, g_p34)) rfl ⟨h1, h2⟩ (by decide)
theorem g_35_0 {h : m_H} (G : GI h) : h 35 0 = ((36 : Nat) : Int) := G.1 35 (2, g_p35) rfl 0 (by decide)
theorem g_35_1 {h : m_H} (G : GI h) : (0 : Int) ≤ h 35 1 ∧ h 35 1 ≤ 400 := G.1 35 (2, g_p35) rfl 1 (by decide)
theorem u_35_1 {h : m_H} (G : GI h) {v : Int} (h1 : (0 : Int) ≤ v) (h2 : v ≤ 400) : GI (m_up h 35 1 v) := G.up (q := (2, g_p35)) rfl ⟨h1, h2⟩ (by decide)
theorem g_36 {h : m_H} (G : GI h) {j : Nat} (hj : j < 400) : (0 : Int) ≤ h 36 j ∧ h 36 j ≤ 255 := G.1 36 (400, g_p36) rfl j hj
theorem u_36 {h : m_H} (G : GI h) {j : Nat} {v : Int} (h1 : (0 : Int) ≤ v) (h2 : v ≤ 255) : GI (m_up h 36 j v) := G.up (q := (400, g_p36)) rfl ⟨h1, h2⟩ (by decide)
theorem g_37_0 {h : m_H} (G : GI h) : h 37 0 = ((35 : Nat) : Int) := G.1 37 (4, g_p37) rfl 0 (by decide)
theorem g_37_1 {h : m_H} (G : GI h) : (0 : Int) ≤ h 37 1 ∧ h 37 1 ≤ 400 := G.1 37 (4, g_p37) rfl 1 (by decide)
theorem u_37_1 {h : m_H} (G : GI h) {v : Int} (h1 : (0 : Int) ≤ v) (h2 : v ≤ 400) : GI (m_up h 37 1 v) := G.up (q := (4, g_p37)) rfl ⟨h1, h2⟩ (by decide)
theorem g_37_2 {h : m_H} (G : GI h) : (0 : Int) ≤ h 37 2 ∧ h 37 2 ≤ 400 := G.1 37 (4, g_p37) rfl 2 (by decide)
theorem u_37_2 {h : m_H} (G : GI h) {v : Int} (h1 : (0 : Int) ≤ v) (h2 : v ≤ 400) : GI (m_up h 37 2 v) := G.up (q := (4, g_p37)) rfl ⟨h1, h2⟩ (by decide)
theorem u_37_3 {h : m_H} (G : GI h) {v : Int} : GI (m_up h 37 3 v) := G.up (q := (4, g_p37)) rfl trivial (by decide)
theorem g_38_0 {h : m_H} (G : GI h) : h 38 0 = ((39 : Nat) : Int) := G.1 38 (6, g_p38) rfl 0 (by decide)
theorem g_38_1 {h : m_H} (G : GI h) : h 38 1 = ((40 : Nat) : Int) := G.1 38 (6, g_p38) rfl 1 (by decide)
theorem g_38_2 {h : m_H} (G : GI h) : h 38 2 = ((41 : Nat) : Int) := G.1 38 (6, g_p38) rfl 2 (by decide)
theorem g_38_3 {h : m_H} (G : GI h) : h 38 3 = ((42 : Nat) : Int) := G.1 38 (6, g_p38) rfl 3 (by decide)
theorem g_38_4 {h : m_H} (G : GI h) : h 38 4 = ((59 : Nat) : Int) := G.1 38 (6, g_p38) rfl 4 (by decide)
theorem g_38_5 {h : m_H} (G : GI h) : h 38 5 = ((76 : Nat) : Int) := G.1 38 (6, g_p38) rfl 5 (by decide)
theorem u_39 {h : m_H} (G : GI h) {j : Nat} {v : Int} : GI (m_up h 39 j v) := G.up (q := (48, g_p39)) rfl trivial (by decide)
theorem g_40 {h : m_H} (G : GI h) {j : Nat} (hj : j < 48) : (0 : Int) ≤ h 40 j ∧ h 40 j ≤ 1 := G.1 40 (48, g_p40) rfl j hj
theorem u_40 {h : m_H} (G : GI h) {j : Nat} {v : Int} (h1 : (0 : Int) ≤ v) (h2 : v ≤ 1) : GI (m_up h 40 j v) := G.up (q := (48, g_p40)) rfl ⟨h1, h2⟩ (by decide)
theorem u_41 {h : m_H} (G : GI h) {j : Nat} {v : Int} : GI (m_up h 41 j v) := G.up (q := (48, g_p41)) rfl trivial (by decide)
theorem g_42 {h : m_H} (G : GI h) {j : Nat} (hj : j < 16) : h 42 j = ((43 + j : Nat) : Int) := G.1 42 (16, g_p42) rfl j hj
theorem u_43_0 {h : m_H} (G : GI h) {v : Int} : GI (m_up h 43 0 v) := G.up (q := (3, g_p43)) rfl trivial (by decide)
theorem u_43_1 {h : m_H} (G : GI h) {v : Int} : GI (m_up h 43 1 v) := G.up (q := (3, g_p43)) rfl trivial (by decide)
theorem g_43_2 {h : m_H} (G : GI h) : (0 : Int) ≤ h 43 2 ∧ h 43 2 ≤ 1 := G.1 43 (3, g_p43) rfl 2 (by decide)
theorem u_43_2 {h : m_H} (G : GI h) {v : Int} (h1 : (0 : Int) ≤ v) (h2 : v ≤ 1) : GI (m_up h 43 2 v) := G.up (q := (3, g_p43)) rfl ⟨h1, h2⟩ (by decide)
theorem u_44_0 {h : m_H} (G : GI h) {v : Int} : GI (m_up h 44 0 v) := G.up (q := (3, g_p44)) rfl trivial (by decide)
theorem u_44_1 {h : m_H} (G : GI h) {v : Int} : GI (m_up h 44 1 v) := G.up (q := (3, g_p44)) rfl trivial (by decide)
theorem g_44_2 {h : m_H} (G : GI h) : (0 : Int) ≤ h 44 2 ∧ h 44 2 ≤ 1 := G.1 44 (3, g_p44) rfl 2 (by decide)
theorem u_44_2 {h : m_H} (G : GI h) {v : Int} (h1 : (0 : Int) ≤ v) (h2 : v ≤ 1) : GI (m_up h 44 2 v) := G.up (q := (3, g_p44)) rfl ⟨h1, h2⟩ (by decide)
theorem u_45_0 {h : m_H} (G : GI h) {v : Int} : GI (m_up h 45 0 v) := G.up (q := (3, g_p45)) rfl trivial (by decide)
theorem u_45_1 {h : m_H} (G : GI h) {v : Int} : GI (m_up h 45 1 v) := G.up (q := (3, g_p45)) rfl trivial (by decide)
theorem g_45_2 {h : m_H} (G : GI h) : (0 : Int) ≤ h 45 2 ∧ h 45 2 ≤ 1 := G.1 45 (3, g_p45) rfl 2 (by decide)
theorem u_45_2 {h : m_H} (G : GI h) {v : Int} (h1 : (0 : Int) ≤ v) (h2 : v ≤ 1) : GI (m_up h 45 2 v) := G.up (q := (3, g_p45)) rfl ⟨h1, h2⟩ (by decide)
theorem u_46_0 {h : m_H} (G : GI h) {v : Int} : GI (m_up h 46 0 v) := G.up (q := (3, g_p46)) rfl trivial (by decide)
theorem u_46_1 {h : m_H} (G : GI h) {v : Int} : GI (m_up h 46 1 v) := G.up (q := (3, g_p46)) rfl trivial (by decide)
theorem g_46_2 {h : m_H} (G : GI h) : (0 : Int) ≤ h 46 2 ∧ h 46 2 ≤ 1 := G.1 46 (3, g_p46) rfl 2 (by decide)
theorem u_46_2 {h : m_H} (G : GI h) {v : Int} (h1 : (0 : Int) ≤ v) (h2 : v ≤ 1) : GI (m_up h 46 2 v) := G.up (q := (3, g_p46)) rfl ⟨h1, h2⟩ (by decide)
theorem u_47_0 {h : m_H} (G : GI h) {v : Int} : GI (m_up h 47 0 v) := G.up (q := (3, g_p47)) rfl trivial (by decide)
theorem u_47_1 {h : m_H} (G : GI h) {v : Int} : GI (m_up h 47 1 v) := G.up (q := (3, g_p47)) rfl trivial (by decide)
theorem g_47_2 {h : m_H} (G : GI h) : (0 : Int) ≤ h 47 2 ∧ h 47 2 ≤ 1 := G.1 47 (3, g_p47) rfl 2 (by decide)
theorem u_47_2 {h : m_H} (G : GI h) {v : Int} (h1 : (0 : Int) ≤ v) (h2 : v ≤ 1) : GI (m_up h 47 2 v) := G.up (q := (3, g_p47)) rfl ⟨h1, h2⟩ (by decide)
theorem u_48_0 {h : m_H} (G : GI h) {v : Int} : GI (m_up h 48 0 v) := G.up (q := (3, g_p48)) rfl trivial (by decide)
theorem u_48_1 {h : m_H} (G : GI h) {v : Int} : GI (m_up h 48 1 v) := G.up (q := (3, g_p48)) rfl trivial (by decide)
theorem g_48_2 {h : m_H} (G : GI h) : (0 : Int) ≤ h 48 2 ∧ h 48 2 ≤ 1 := G.1 48 (3, g_p48) rfl 2 (by decide)
theorem u_48_2 {h : m_H} (G : GI h) {v : Int} (h1 : (0 : Int) ≤ v) (h2 : v ≤ 1) : GI (m_up h 48 2 v) := G.up (q := (3, g_p48)) rfl ⟨h1, h2⟩ (by decide)
theorem u_49_0 {h : m_H} (G : GI h) {v : Int} : GI (m_up h 49 0 v) := G.up (q := (3, g_p49)) rfl trivial (by decide)
theorem u_49_1 {h : m_H} (G : GI h) {v : Int} : GI (m_up h 49 1 v) := G.up (q := (3, g_p49)) rfl trivial (by decide)
theorem g_49_2 {h : m_H} (G : GI h) : (0 : Int) ≤ h 49 2 ∧ h 49 2 ≤ 1 := G.1 49 (3, g_p49) rfl 2 (by decide)
theorem u_49_2 {h : m_H} (G : GI h) {v : Int} (h1 : (0 : Int) ≤ v) (h2 : v ≤ 1) : GI (m_up h 49 2 v) := G.up (q := (3, g_p49)) rfl ⟨h1, h2⟩ (by decide)
theorem u_50_0 {h : m_H} (G : GI h) {v : Int} : GI (m_up h 50 0 v) := G.up (q := (3, g_p50)) rfl trivial (by decide)
theorem u_50_1 {h : m_H} (G : GI h) {v : Int} : GI (m_up h 50 1 v) := G.up (q := (3, g_p50)) rfl trivial (by decide)
theorem g_50_2 {h : m_H} (G : GI h) : (0 : Int) ≤ h 50 2 ∧ h 50 2 ≤ 1 := G.1 50 (3, g_p50) rfl 2 (by decide)
theorem u_50_2 {h : m_H} (G : GI h) {v : Int} (h1 : (0 : Int) ≤ v) (h2 : v ≤ 1) : GI (m_up h 50 2 v) := G.up (q := (3, g_p50)) rfl ⟨h1, h2⟩ (by decide)
theorem u_51_0 {h : m_H} (G : GI h) {v : Int} : GI (m_up h 51 0 v) := G.up (q := (3, g_p51)) rfl trivial (by decide)
theorem u_51_1 {h : m_H} (G : GI h) {v : Int} : GI (m_up h 51 1 v) := G.up (q := (3, g_p51)) rfl trivial (by decide)
theorem g_51_2 {h : m_H} (G : GI h) : (0 : Int) ≤ h 51 2 ∧ h 51 2 ≤ 1 := G.1 51 (3, g_p51) rfl 2 (by decide)
theorem u_51_2 {h : m_H} (G : GI h) {v : Int} (h1 : (0 : Int) ≤ v) (h2 : v ≤ 1) : GI (m_up h 51 2 v) := G.up (q := (3, g_p51)) rfl ⟨h1, h2⟩ (by decide)
theorem u_52_0 {h : m_H} (G : GI h) {v : Int} : GI (m_up h 52 0 v) := G.up (q := (3, g_p52)) rfl trivial (by decide)
theorem u_52_1 {h : m_H} (G : GI h) {v : Int} : GI (m_up h 52 1 v) := G.up (q := (3, g_p52)) rfl trivial (by decide)
theorem g_52_2 {h : m_H} (G : GI h) : (0 : Int) ≤ h 52 2 ∧ h 52 2 ≤ 1 := G.1 52 (3, g_p52) rfl 2 (by decide)
theorem u_52_2 {h : m_H} (G : GI h) {v : Int} (h1 : (0 : Int) ≤ v) (h2 : v ≤ 1) : GI (m_up h 52 2 v) := G.up (q := (3, g_p52)) rfl ⟨h1, h2⟩ (by decide)
theorem u_53_0 {h : m_H} (G : GI h) {v : Int} : GI (m_up h 53 0 v) := G.up (q := (3, g_p53)) rfl trivial (by decide)
theorem u_53_1 {h : m_H} (G : GI h) {v : Int} : GI (m_up h 53 1 v) := G.up (q := (3, g_p53)) rfl trivial (by decide)
theorem g_53_2 {h : m_H} (G : GI h) : (0 : Int) ≤ h 53 2 ∧ h 53 2 ≤ 1 := G.1 53 (3, g_p53) rfl 2 (by decide)
theorem u_53_2 {h : m_H} (G : GI h) {v : Int} (h1 : (0 : Int) ≤ v) (h2 : v ≤ 1) : GI (m_up h 53 2 v) := G.up (q := (3, g_p53)) rfl ⟨h1, h2⟩ (by decide)
theorem u_54_0 {h : m_H} (G : GI h) {v : Int} : GI (m_up h 54 0 v) := G.up (q := (3, g_p54)) rfl trivial (by decide)
theorem u_54_1 {h : m_H} (G : GI h) {v : Int} : GI (m_up h 54 1 v) := G.up (q := (3, g_p54)) rfl trivial (by decide)
theorem g_54_2 {h : m_H} (G : GI h) : (0 : Int) ≤ h 54 2 ∧ h 54 2 ≤ 1 := G.1 54 (3, g_p54) rfl 2 (by decide)
theorem u_54_2 {h : m_H} (G : GI h) {v : Int} (h1 : (0 : Int) ≤ v) (h2 : v ≤ 1) : GI (m_up h 54 2 v) := G.up (q := (3, g_p54)) rfl ⟨h1, h2⟩ (by decide)
theorem u_55_0 {h : m_H} (G : GI h) {v : Int} : GI (m_up h 55 0 v) := G.up (q := (3, g_p55)) rfl trivial (by decide)
theorem u_55_1 {h : m_H} (G : GI h) {v : Int} : GI (m_up h 55 1 v) := G.up (q := (3, g_p55)) rfl trivial (by decide)
theorem g_55_2 {h : m_H} (G : GI h) : (0 : Int) ≤ h 55 2 ∧ h 55 2 ≤ 1 := G.1 55 (3, g_p55) rfl 2 (by decide)
theorem u_55_2 {h : m_H} (G : GI h) {v : Int} (h1 : (0 : Int) ≤ v) (h2 : v ≤ 1) : GI (m_up h 55 2 v) := G.up (q := (3, g_p55)) rfl ⟨h1, h2⟩ (by decide)
theorem u_56_0 {h : m_H} (G : GI h) {v : Int} : GI (m_up h 56 0 v) := G.up (q := (3, g_p56)) rfl trivial (by decide)
theorem u_56_1 {h : m_H} (G : GI h) {v : Int} : GI (m_up h 56 1 v) := G.up (q := (3, g_p56)) rfl trivial (by decide)
theorem g_56_2 {h : m_H} (G : GI h) : (0 : Int) ≤ h 56 2 ∧ h 56 2 ≤ 1 := G.1 56 (3, g_p56) rfl 2 (by decide)
theorem u_56_2 {h : m_H} (G : GI h) {v : Int} (h1 : (0 : Int) ≤ v) (h2 : v ≤ 1) : GI (m_up h 56 2 v) := G.up (q := (3, g_p56)) rfl ⟨h1, h2⟩ (by decide)
theorem u_57_0 {h : m_H} (G : GI h) {v : Int} : GI (m_up h 57 0 v) := G.up (q := (3, g_p57)) rfl trivial (by decide)
theorem u_57_1 {h : m_H} (G : GI h) {v : Int} : GI (m_up h 57 1 v) := G.up (q := (3, g_p57)) rfl trivial (by decide)
theorem g_57_2 {h : m_H} (G : GI h) : (0 : Int) ≤ h 57 2 ∧ h 57 2 ≤ 1 := G.1 57 (3, g_p57) rfl 2 (by decide)
theorem u_57_2 {h : m_H} (G : GI h) {v : Int} (h1 : (0 : Int) ≤ v) (h2 : v ≤ 1) : GI (m_up h 57 2 v) := G.up (q := (3, g_p57)) rfl ⟨h1, h2⟩ (by decide)
theorem u_58_0 {h : m_H} (G : GI h) {v : Int} : GI (m_up h 58 0 v) := G.up (q := (3, g_p58)) rfl trivial (by decide)
theorem u_58_1 {h : m_H} (G : GI h) {v : Int} : GI (m_up h 58 1 v) := G.up (q := (3, g_p58)) rfl trivial (by decide)
theorem g_58_2 {h : m_H} (G : GI h) : (0 : Int) ≤ h 58 2 ∧ h 58 2 ≤ 1 := G.1 58 (3, g_p58) rfl 2 (by decide)
theorem u_58_2 {h : m_H} (G : GI h) {v : Int} (h1 : (0 : Int) ≤ v) (h2 : v ≤ 1) : GI (m_up h 58 2 v) := G.up (q := (3, g_p58)) rfl ⟨h1, h2⟩ (by decide)
theorem g_59 {h : m_H} (G : GI h) {j : Nat} (hj : j < 16) : h 59 j = ((60 + j : Nat) : Int) := G.1 59 (16, g_p59) rfl j hj
theorem u_60_0 {h : m_H} (G : GI h) {v : Int} : GI (m_up h 60 0 v) := G.up (q := (3, g_p60)) rfl trivial (by decide)
theorem u_60_1 {h : m_H} (G : GI h) {v : Int} : GI (m_up h 60 1 v) := G.up (q := (3, g_p60)) rfl trivial (by decide)
theorem g_60_2 {h : m_H} (G : GI h) : (0 : Int) ≤ h 60 2 ∧ h 60 2 ≤ 1 := G.1 60 (3, g_p60) rfl 2 (by decide)
theorem u_60_2 {h : m_H} (G : GI h) {v : Int} (h1 : (0 : Int) ≤ v) (h2 : v ≤ 1) : GI (m_up h 60 2 v) := G.up (q := (3, g_p60)) rfl ⟨h1, h2⟩ (by decide)
theorem u_61_0 {h : m_H} (G : GI h) {v : Int} : GI (m_up h 61 0 v) := G.up (q := (3, g_p61)) rfl trivial (by decide)
theorem u_61_1 {h : m_H} (G : GI h) {v : Int} : GI (m_up h 61 1 v) := G.up (q := (3, g_p61)) rfl trivial (by decide)
theorem g_61_2 {h : m_H} (G : GI h) : (0 : Int) ≤ h 61 2 ∧ h 61 2 ≤ 1 := G.1 61 (3, g_p61) rfl 2 (by decide)
theorem u_61_2 {h : m_H} (G : GI h) {v : Int} (h1 : (0 : Int) ≤ v) (h2 : v ≤ 1) : GI (m_up h 61 2 v) := G.up (q := (3, g_p61)) rfl ⟨h1, h2⟩ (by decide)
theorem u_62_0 {h : m_H} (G : GI h) {v : Int} : GI (m_up h 62 0 v) := G.up (q := (3, g_p62)) rfl trivial (by decide)
theorem u_62_1 {h : m_H} (G : GI h) {v : Int} : GI (m_up h 62 1 v) := G.up (q := (3, g_p62)) rfl trivial (by decide)
theorem g_62_2 {h : m_H} (G : GI h) : (0 : Int) ≤ h 62 2 ∧ h 62 2 ≤ 1 := G.1 62 (3, g_p62) rfl 2 (by decide)
theorem u_62_2 {h : m_H} (G : GI h) {v : Int} (h1 : (0 : Int) ≤ v) (h2 : v ≤ 1) : GI (m_up h 62 2 v) := G.up (q := (3, g_p62)) rfl ⟨h1, h2⟩ (by decide)
theorem u_63_0 {h : m_H} (G : GI h) {v : Int} : GI (m_up h 63 0 v) := G.up (q := (3, g_p63)) rfl trivial (by decide)
theorem u_63_1 {h : m_H} (G : GI h) {v : Int} : GI (m_up h 63 1 v) := G.up (q := (3, g_p63)) rfl trivial (by decide)
theorem g_63_2 {h : m_H} (G : GI h) : (0 : Int) ≤ h 63 2 ∧ h 63 2 ≤ 1 := G.1 63 (3, g_p63) rfl 2 (by decide)
theorem u_63_2 {h : m_H} (G : GI h) {v : Int} (h1 : (0 : Int) ≤ v) (h2 : v ≤ 1) : GI (m_up h 63 2 v) := G.up (q := (3, g_p63)) rfl ⟨h1, h2⟩ (by decide)
theorem u_64_0 {h : m_H} (G : GI h) {v : Int} : GI (m_up h 64 0 v) := G.up (q := (3, g_p64)) rfl trivial (by decide)
theorem u_64_1 {h : m_H} (G : GI h) {v : Int} : GI (m_up h 64 1 v) := G.up (q := (3, g_p64)) rfl trivial (by decide)
theorem g_64_2 {h : m_H} (G : GI h) : (0 : Int) ≤ h 64 2 ∧ h 64 2 ≤ 1 := G.1 64 (3, g_p64) rfl 2 (by decide)
theorem u_64_2 {h : m_H} (G : GI h) {v : Int} (h1 : (0 : Int) ≤ v) (h2 : v ≤ 1) : GI (m_up h 64 2 v) := G.up (q := (3, g_p64)) rfl ⟨h1, h2⟩ (by decide)
theorem u_65_0 {h : m_H} (G : GI h) {v : Int} : GI (m_up h 65 0 v) := G.up (q := (3, g_p65)) rfl trivial (by decide)
theorem u_65_1 {h : m_H} (G : GI h) {v : Int} : GI (m_up h 65 1 v) := G.up (q := (3, g_p65)) rfl trivial (by decide)
theorem g_65_2 {h : m_H} (G : GI h) : (0 : Int) ≤ h 65 2 ∧ h 65 2 ≤ 1 := G.1 65 (3, g_p65) rfl 2 (by decide)
theorem u_65_2 {h : m_H} (G : GI h) {v : Int} (h1 : (0 : Int) ≤ v) (h2 : v ≤ 1) : GI (m_up h 65 2 v) := G.up (q := (3, g_p65)) rfl ⟨h1, h2⟩ (by decide)
theorem u_66_0 {h : m_H} (G : GI h) {v : Int} : GI (m_up h 66 0 v) := G.up (q := (3, g_p66)) rfl trivial (by decide)
theorem u_66_1 {h : m_H} (G : GI h) {v : Int} : GI (m_up h 66 1 v) := G.up (q := (3, g_p66)) rfl trivial (by decide)
theorem g_66_2 {h : m_H} (G : GI h) : (0 : Int) ≤ h 66 2 ∧ h 66 2 ≤ 1 := G.1 66 (3, g_p66) rfl 2 (by decide)
theorem u_66_2 {h : m_H} (G : GI h) {v : Int} (h1 : (0 : Int) ≤ v) (h2 : v ≤ 1) : GI (m_up h 66 2 v) := G.up (q := (3, g_p66)) rfl ⟨h1, h2⟩ (by decide)
theorem u_67_0 {h : m_H} (G : GI h) {v : Int} : GI (m_up h 67 0 v) := G.up (q := (3, g_p67)) rfl trivial (by decide)
theorem u_67_1 {h : m_H} (G : GI h) {v : Int} : GI (m_up h 67 1 v) := G.up (q := (3, g_p67)) rfl trivial (by decide)
theorem g_67_2 {h : m_H} (G : GI h) : (0 : Int) ≤ h 67 2 ∧ h 67 2 ≤ 1 := G.1 67 (3, g_p67) rfl 2 (by decide)
theorem u_67_2 {h : m_H} (G : GI h) {v : Int} (h1 : (0 : Int) ≤ v) (h2 : v ≤ 1) : GI (m_up h 67 2 v) := G.up (q := (3, g_p67)) rfl ⟨h1, h2⟩ (by decide)
theorem u_68_0 {h : m_H} (G : GI h) {v : Int} : GI (m_up h 68 0 v) := G.up (q := (3, g_p68)) rfl trivial (by decide)
theorem u_68_1 {h : m_H} (G : GI h) {v : Int} : GI (m_up h 68 1 v) := G.up (q := (3, g_p68)) rfl trivial (by decide)
theorem g_68_2 {h : m_H} (G : GI h) : (0 : Int) ≤ h 68 2 ∧ h 68 2 ≤ 1 := G.1 68 (3, g_p68) rfl 2 (by decide)
theorem u_68_2 {h : m_H} (G : GI h) {v : Int} (h1 : (0 : Int) ≤ v) (h2 : v ≤ 1) : GI (m_up h 68 2 v) := G.up (q := (3, g_p68)) rfl ⟨h1, h2⟩ (by decide)
theorem u_69_0 {h : m_H} (G : GI h) {v : Int} : GI (m_up h 69 0 v) := G.up (q := (3, g_p69)) rfl trivial (by decide)
theorem u_69_1 {h : m_H} (G : GI h) {v : Int} : GI (m_up h 69 1 v) := G.up (q := (3, g_p69)) rfl trivial (by decide)
theorem g_69_2 {h : m_H} (G : GI h) : (0 : Int) ≤ h 69 2 ∧ h 69 2 ≤ 1 := G.1 69 (3, g_p69) rfl 2 (by decide)
theorem u_69_2 {h : m_H} (G : GI h) {v : Int} (h1 : (0 : Int) ≤ v) (h2 : v ≤ 1) : GI (m_up h 69 2 v) := G.up (q := (3, g_p69)) rfl ⟨h1, h2⟩ (by decide)
theorem u_70_0 {h : m_H} (G : GI h) {v : Int} : GI (m_up h 70 0 v) := G.up (q := (3, g_p70)) rfl trivial (by decide)
theorem u_70_1 {h : m_H} (G : GI h) {v : Int} : GI (m_up h 70 1 v) := G.up (q := (3, g_p70)) rfl trivial (by decide)
theorem g_70_2 {h : m_H} (G : GI h) : (0 : Int) ≤ h 70 2 ∧ h 70 2 ≤ 1 := G.1 70 (3, g_p70) rfl 2 (by decide)
theorem u_70_2 {h : m_H} (G : GI h) {v : Int} (h1 : (0 : Int) ≤ v) (h2 : v ≤ 1) : GI (m_up h 70 2 v) := G.up (q := (3, g_p70)) rfl ⟨h1, h2⟩ (by decide)
theorem u_71_0 {h : m_H} (G : GI h) {v : Int} : GI (m_up h 71 0 v) := G.up (q := (3, g_p71)) rfl trivial (by decide)
theorem u_71_1 {h : m_H} (G : GI h) {v : Int} : GI (m_up h 71 1 v) := G.up (q := (3, g_p71)) rfl trivial (by decide)
theorem g_71_2 {h : m_H} (G : GI h) : (0 : Int) ≤ h 71 2 ∧ h 71 2 ≤ 1 := G.1 71 (3, g_p71) rfl 2 (by decide)
theorem u_71_2 {h : m_H} (G : GI h) {v : Int} (h1 : (0 : Int) ≤ v) (h2 : v ≤ 1) : GI (m_up h 71 2 v) := G.up (q := (3, g_p71)) rfl ⟨h1, h2⟩ (by decide)
theorem u_72_0 {h : m_H} (G : GI h) {v : Int} : GI (m_up h 72 0 v) := G.up (q := (3, g_p72)) rfl trivial (by decide)
theorem u_72_1 {h : m_H} (G : GI h) {v : Int} : GI (m_up h 72 1 v) := G.up (q := (3, g_p72)) rfl trivial (by decide)
theorem g_72_2 {h : m_H} (G : GI h) : (0 : Int) ≤ h 72 2 ∧ h 72 2 ≤ 1 := G.1 72 (3, g_p72) rfl 2 (by decide)
theorem u_72_2 {h : m_H} (G : GI h) {v : Int} (h1 : (0 : Int) ≤ v) (h2 : v ≤ 1) : GI (m_up h 72 2 v) := G.up (q := (3, g_p72)) rfl ⟨h1, h2⟩ (by decide)
theorem u_73_0 {h : m_H} (G : GI h) {v : Int} : GI (m_up h 73 0 v) := G.up (q := (3, g_p73)) rfl trivial (by decide)
theorem u_73_1 {h : m_H} (G : GI h) {v : Int} : GI (m_up h 73 1 v) := G.up (q := (3, g_p73)) rfl trivial (by decide)
theorem g_73_2 {h : m_H} (G : GI h) : (0 : Int) ≤ h 73 2 ∧ h 73 2 ≤ 1 := G.1 73 (3, g_p73) rfl 2 (by decide)
theorem u_73_2 {h : m_H} (G : GI h) {v : Int} (h1 : (0 : Int) ≤ v) (h2 : v ≤ 1) : GI (m_up h 73 2 v) := G.up (q := (3, g_p73)) rfl ⟨h1, h2⟩ (by decide)
theorem u_74_0 {h : m_H} (G : GI h) {v : Int} : GI (m_up h 74 0 v) := G.up (q := (3, g_p74)) rfl trivial (by decide)
theorem u_74_1 {h : m_H} (G : GI h) {v : Int} : GI (m_up h 74 1 v) := G.up (q := (3, g_p74)) rfl trivial (by decide)
theorem g_74_2 {h : m_H} (G : GI h) : (0 : Int) ≤ h 74 2 ∧ h 74 2 ≤ 1 := G.1 74 (3, g_p74) rfl 2 (by decide)
theorem u_74_2 {h : m_H} (G : GI h) {v : Int} (h1 : (0 : Int) ≤ v) (h2 : v ≤ 1) : GI (m_up h 74 2 v) := G.up (q := (3, g_p74)) rfl ⟨h1, h2⟩ (by decide)
theorem u_75_0 {h : m_H} (G : GI h) {v : Int} : GI (m_up h 75 0 v) := G.up (q := (3, g_p75)) rfl trivial (by decide)
theorem u_75_1 {h : m_H} (G : GI h) {v : Int} : GI (m_up h 75 1 v) := G.up (q := (3, g_p75)) rfl trivial (by decide)
theorem g_75_2 {h : m_H} (G : GI h) : (0 : Int) ≤ h 75 2 ∧ h 75 2 ≤ 1 := G.1 75 (3, g_p75) rfl 2 (by decide)
theorem u_75_2 {h : m_H} (G : GI h) {v : Int} (h1 : (0 : Int) ≤ v) (h2 : v ≤ 1) : GI (m_up h 75 2 v) := G.up (q := (3, g_p75)) rfl ⟨h1, h2⟩ (by decide)
theorem g_76 {h : m_H} (G : GI h) {j : Nat} (hj : j < 16) : h 76 j = ((77 + j : Nat) : Int) := G.1 76 (16, g_p76) rfl j hj
theorem u_77_0 {h : m_H} (G : GI h) {v : Int} : GI (m_up h 77 0 v) := G.up (q := (3, g_p77)) rfl trivial (by decide)
theorem u_77_1 {h : m_H} (G : GI h) {v : Int} : GI (m_up h 77 1 v) := G.up (q := (3, g_p77)) rfl trivial (by decide)
theorem g_77_2 {h : m_H} (G : GI h) : (0 : Int) ≤ h 77 2 ∧ h 77 2 ≤ 1 := G.1 77 (3, g_p77) rfl 2 (by decide)
theorem u_77_2 {h : m_H} (G : GI h) {v : Int} (h1 : (0 : Int) ≤ v) (h2 : v ≤ 1) : GI (m_up h 77 2 v) := G.up (q := (3, g_p77)) rfl ⟨h1, h2⟩ (by decide)
theorem u_78_0 {h : m_H} (G : GI h) {v : Int} : GI (m_up h 78 0 v) := G.up (q := (3, g_p78)) rfl trivial (by decide)
theorem u_78_1 {h : m_H} (G : GI h) {v : Int} : GI (m_up h 78 1 v) := G.up (q := (3, g_p78)) rfl trivial (by decide)
theorem g_78_2 {h : m_H} (G : GI h) : (0 : Int) ≤ h 78 2 ∧ h 78 2 ≤ 1 := G.1 78 (3, g_p78) rfl 2 (by decide)
theorem u_78_2 {h : m_H} (G : GI h) {v : Int} (h1 : (0 : Int) ≤ v) (h2 : v ≤ 1) : GI (m_up h 78 2 v) := G.up (q := (3, g_p78)) rfl ⟨h1, h2⟩ (by decide)
theorem u_79_0 {h : m_H} (G : GI h) {v : Int} : GI (m_up h 79 0 v) := G.up (q := (3, g_p79)) rfl trivial (by decide)
theorem u_79_1 {h : m_H} (G : GI h) {v : Int} : GI (m_up h 79 1 v) := G.up (q := (3, g_p79)) rfl trivial (by decide)
theorem g_79_2 {h : m_H} (G : GI h) : (0 : Int) ≤ h 79 2 ∧ h 79 2 ≤ 1 := G.1 79 (3, g_p79) rfl 2 (by decide)
theorem u_79_2 {h : m_H} (G : GI h) {v : Int} (h1 : (0 : Int) ≤ v) (h2 : v ≤ 1) : GI (m_up h 79 2 v) := G.up (q := (3, g_p79)) rfl ⟨h1, h2⟩ (by decide)
theorem u_80_0 {h : m_H} (G : GI h) {v : Int} : GI (m_up h 80 0 v) := G.up (q := (3, g_p80)) rfl trivial (by decide)
theorem u_80_1 {h : m_H} (G : GI h) {v : Int} : GI (m_up h 80 1 v) := G.up (q := (3, g_p80)) rfl trivial (by decide)
theorem g_80_2 {h : m_H} (G : GI h) : (0 : Int) ≤ h 80 2 ∧ h 80 2 ≤ 1 := G.1 80 (3, g_p80) rfl 2 (by decide)
theorem u_80_2 {h : m_H} (G : GI h) {v : Int} (h1 : (0 : Int) ≤ v) (h2 : v ≤ 1) : GI (m_up h 80 2 v) := G.up (q := (3, g_p80)) rfl ⟨h1, h2⟩ (by decide)
theorem u_81_0 {h : m_H} (G : GI h) {v : Int} : GI (m_up h 81 0 v) := G.up (q := (3, g_p81)) rfl trivial (by decide)
theorem u_81_1 {h : m_H} (G : GI h) {v : Int} : GI (m_up h 81 1 v) := G.up (q := (3, g_p81)) rfl trivial (by decide)
theorem g_81_2 {h : m_H} (G : GI h) : (0 : Int) ≤ h 81 2 ∧ h 81 2 ≤ 1 := G.1 81 (3, g_p81) rfl 2 (by decide)
theorem u_81_2 {h : m_H} (G : GI h) {v : Int} (h1 : (0 : Int) ≤ v) (h2 : v ≤ 1) : GI (m_up h 81 2 v) := G.up (q := (3, g_p81)) rfl ⟨h1, h2⟩ (by decide)
theorem u_82_0 {h : m_H} (G : GI h) {v : Int} : GI (m_up h 82 0 v) := G.up (q := (3, g_p82)) rfl trivial (by decide)
theorem u_82_1 {h : m_H} (G : GI h) {v : Int} : GI (m_up h 82 1 v) := G.up (q := (3, g_p82)) rfl trivial (by decide)
theorem g_82_2 {h : m_H} (G : GI h) : (0 : Int) ≤ h 82 2 ∧ h 82 2 ≤ 1 := G.1 82 (3, g_p82) rfl 2 (by decide)
theorem u_82_2 {h : m_H} (G : GI h) {v : Int} (h1 : (0 : Int) ≤ v) (h2 : v ≤ 1) : GI (m_up h 82 2 v) := G.up (q := (3, g_p82)) rfl ⟨h1, h2⟩ (by decide)
theorem u_83_0 {h : m_H} (G : GI h) {v : Int} : GI (m_up h 83 0 v) := G.up (q := (3, g_p83)) rfl trivial (by decide)
theorem u_83_1 {h : m_H} (G : GI h) {v : Int} : GI (m_up h 83 1 v) := G.up (q := (3, g_p83)) rfl trivial (by decide)
theorem g_83_2 {h : m_H} (G : GI h) : (0 : Int) ≤ h 83 2 ∧ h 83 2 ≤ 1 := G.1 83 (3, g_p83) rfl 2 (by decide)
theorem u_83_2 {h : m_H} (G : GI h) {v : Int} (h1 : (0 : Int) ≤ v) (h2 : v ≤ 1) : GI (m_up h 83 2 v) := G.up (q := (3, g_p83)) rfl ⟨h1, h2⟩ (by decide)
theorem u_84_0 {h : m_H} (G : GI h) {v : Int} : GI (m_up h 84 0 v) := G.up (q := (3, g_p84)) rfl trivial (by decide)
theorem u_84_1 {h : m_H} (G : GI h) {v : Int} : GI (m_up h 84 1 v) := G.up (q := (3, g_p84)) rfl trivial (by decide)
theorem g_84_2 {h : m_H} (G : GI h) : (0 : Int) ≤ h 84 2 ∧ h 84 2 ≤ 1 := G.1 84 (3, g_p84) rfl 2 (by decide)
theorem u_84_2 {h : m_H} (G : GI h) {v : Int} (h1 : (0 : Int) ≤ v) (h2 : v ≤ 1) : GI (m_up h 84 2 v) := G.up (q := (3, g_p84)) rfl ⟨h1, h2⟩ (by decide)
theorem u_85_0 {h : m_H} (G : GI h) {v : Int} : GI (m_up h 85 0 v) := G.up (q := (3, g_p85)) rfl trivial (by decide)
theorem u_85_1 {h : m_H} (G : GI h) {v : Int} : GI (m_up h 85 1 v) := G.up (q := (3, g_p85)) rfl trivial (by decide)
theorem g_85_2 {h : m_H} (G : GI h) : (0 : Int) ≤ h 85 2 ∧ h 85 2 ≤ 1 := G.1 85 (3, g_p85) rfl 2 (by decide)
theorem u_85_2 {h : m_H} (G : GI h) {v : Int} (h1 : (0 : Int) ≤ v) (h2 : v ≤ 1) : GI (m_up h 85 2 v) := G.up (q := (3, g_p85)) rfl ⟨h1, h2⟩ (by decide)
theorem u_86_0 {h : m_H} (G : GI h) {v : Int} : GI (m_up h 86 0 v) := G.up (q := (3, g_p86)) rfl trivial (by decide)
theorem u_86_1 {h : m_H} (G : GI h) {v : Int} : GI (m_up h 86 1 v) := G.up (q := (3, g_p86)) rfl trivial (by decide)
theorem g_86_2 {h : m_H} (G : GI h) : (0 : Int) ≤ h 86 2 ∧ h 86 2 ≤ 1 := G.1 86 (3, g_p86) rfl 2 (by decide)
theorem u_86_2 {h : m_H} (G : GI h) {v : Int} (h1 : (0 : Int) ≤ v) (h2 : v ≤ 1) : GI (m_up h 86 2 v) := G.up (q := (3, g_p86)) rfl ⟨h1, h2⟩ (by decide)
theorem u_87_0 {h : m_H} (G : GI h) {v : Int} : GI (m_up h 87 0 v) := G.up (q := (3, g_p87)) rfl trivial (by decide)
theorem u_87_1 {h : m_H} (G : GI h) {v : Int} : GI (m_up h 87 1 v) := G.up (q := (3, g_p87)) rfl trivial (by decide)
theorem g_87_2 {h : m_H} (G : GI h) : (0 : Int) ≤ h 87 2 ∧ h 87 2 ≤ 1 := G.1 87 (3, g_p87) rfl 2 (by decide)
theorem u_87_2 {h : m_H} (G : GI h) {v : Int} (h1 : (0 : Int) ≤ v) (h2 : v ≤ 1) : GI (m_up h 87 2 v) := G.up (q := (3, g_p87)) rfl ⟨h1, h2⟩ (by decide)
theorem u_88_0 {h : m_H} (G : GI h) {v : Int} : GI (m_up h 88 0 v) := G.up (q := (3, g_p88)) rfl trivial (by decide)
theorem u_88_1 {h : m_H} (G : GI h) {v : Int} : GI (m_up h 88 1 v) := G.up (q := (3, g_p88)) rfl trivial (by decide)
theorem g_88_2 {h : m_H} (G : GI h) : (0 : Int) ≤ h 88 2 ∧ h 88 2 ≤ 1 := G.1 88 (3, g_p88) rfl 2 (by decide)
theorem u_88_2 {h : m_H} (G : GI h) {v : Int} (h1 : (0 : Int) ≤ v) (h2 : v ≤ 1) : GI (m_up h 88 2 v) := G.up (q := (3, g_p88)) rfl ⟨h1, h2⟩ (by decide)
theorem u_89_0 {h : m_H} (G : GI h) {v : Int} : GI (m_up h 89 0 v) := G.up (q := (3, g_p89)) rfl trivial (by decide)
theorem u_89_1 {h : m_H} (G : GI h) {v : Int} : GI (m_up h 89 1 v) := G.up (q := (3, g_p89)) rfl trivial (by decide)
theorem g_89_2 {h : m_H} (G : GI h) : (0 : Int) ≤ h 89 2 ∧ h 89 2 ≤ 1 := G.1 89 (3, g_p89) rfl 2 (by decide)
theorem u_89_2 {h : m_H} (G : GI h) {v : Int} (h1 : (0 : Int) ≤ v) (h2 : v ≤ 1) : GI (m_up h 89 2 v) := G.up (q := (3, g_p89)) rfl ⟨h1, h2⟩ (by decide)
theorem u_90_0 {h : m_H} (G : GI h) {v : Int} : GI (m_up h 90 0 v) := G.up (q := (3, g_p90)) rfl trivial (by decide)
theorem u_90_1 {h : m_H} (G : GI h) {v : Int} : GI (m_up h 90 1 v) := G.up (q := (3, g_p90)) rfl trivial (by decide)
theorem g_90_2 {h : m_H} (G : GI h) : (0 : Int) ≤ h 90 2 ∧ h 90 2 ≤ 1 := G.1 90 (3, g_p90) rfl 2 (by decide)
theorem u_90_2 {h : m_H} (G : GI h) {v : Int} (h1 : (0 : Int) ≤ v) (h2 : v ≤ 1) : GI (m_up h 90 2 v) := G.up (q := (3, g_p90)) rfl ⟨h1, h2⟩ (by decide)
theorem u_91_0 {h : m_H} (G : GI h) {v : Int} : GI (m_up h 91 0 v) := G.up (q := (3, g_p91)) rfl trivial (by decide)
theorem u_91_1 {h : m_H} (G : GI h) {v : Int} : GI (m_up h 91 1 v) := G.up (q := (3, g_p91)) rfl trivial (by decide)
theorem g_91_2 {h : m_H} (G : GI h) : (0 : Int) ≤ h 91 2 ∧ h 91 2 ≤ 1 := G.1 91 (3, g_p91) rfl 2 (by decide)
theorem u_91_2 {h : m_H} (G : GI h) {v : Int} (h1 : (0 : Int) ≤ v) (h2 : v ≤ 1) : GI (m_up h 91 2 v) := G.up (q := (3, g_p91)) rfl ⟨h1, h2⟩ (by decide)
theorem u_92_0 {h : m_H} (G : GI h) {v : Int} : GI (m_up h 92 0 v) := G.up (q := (3, g_p92)) rfl trivial (by decide)
theorem u_92_1 {h : m_H} (G : GI h) {v : Int} : GI (m_up h 92 1 v) := G.up (q := (3, g_p92)) rfl trivial (by decide)
theorem g_92_2 {h : m_H} (G : GI h) : (0 : Int) ≤ h 92 2 ∧ h 92 2 ≤ 1 := G.1 92 (3, g_p92) rfl 2 (by decide)
theorem u_92_2 {h : m_H} (G : GI h) {v : Int} (h1 : (0 : Int) ≤ v) (h2 : v ≤ 1) : GI (m_up h 92 2 v) := G.up (q := (3, g_p92)) rfl ⟨h1, h2⟩ (by decide)
theorem g_93_0 {h : m_H} (G : GI h) : h 93 0 = ((94 : Nat) : Int) := G.1 93 (2, g_p93) rfl 0 (by decide)
theorem g_93_1 {h : m_H} (G : GI h) : h 93 1 = ((95 : Nat) : Int) := G.1 93 (2, g_p93) rfl 1 (by decide)
theorem u_94_0 {h : m_H} (G : GI h) {v : Int} : GI (m_up h 94 0 v) := G.up (q := (3, g_p94)) rfl trivial (by decide)
theorem u_94_1 {h : m_H} (G : GI h) {v : Int} : GI (m_up h 94 1 v) := G.up (q := (3, g_p94)) rfl trivial (by decide)
theorem g_94_2 {h : m_H} (G : GI h) : (0 : Int) ≤ h 94 2 ∧ h 94 2 ≤ 1 := G.1 94 (3, g_p94) rfl 2 (by decide)
theorem u_94_2 {h : m_H} (G : GI h) {v : Int} (h1 : (0 : Int) ≤ v) (h2 : v ≤ 1) : GI (m_up h 94 2 v) := G.up (q := (3, g_p94)) rfl ⟨h1, h2⟩ (by decide)
theorem u_95_0 {h : m_H} (G : GI h) {v : Int} : GI (m_up h 95 0 v) := G.up (q := (3, g_p95)) rfl trivial (by decide)
theorem u_95_1 {h : m_H} (G : GI h) {v : Int} : GI (m_up h 95 1 v) := G.up (q := (3, g_p95)) rfl trivial (by decide)
theorem g_95_2 {h : m_H} (G : GI h) : (0 : Int) ≤ h 95 2 ∧ h 95 2 ≤ 1 := G.1 95 (3, g_p95) rfl 2 (by decide)
theorem u_95_2 {h : m_H} (G : GI h) {v : Int} (h1 : (0 : Int) ≤ v) (h2 : v ≤ 1) : GI (m_up h 95 2 v) := G.up (q := (3, g_p95)) rfl ⟨h1, h2⟩ (by decide)
theorem g_96_0 {h : m_H} (G : GI h) : h 96 0 = ((97 : Nat) : Int) := G.1 96 (5, g_p96) rfl 0 (by decide)
theorem g_96_1 {h : m_H} (G : GI h) : h 96 1 = ((98 : Nat) : Int) := G.1 96 (5, g_p96) rfl 1 (by decide)
theorem g_96_2 {h : m_H} (G : GI h) : (0 : Int) ≤ h 96 2 ∧ h 96 2 ≤ 3 := G.1 96 (5, g_p96) rfl 2 (by decide)
theorem u_96_2 {h : m_H} (G : GI h) {v : Int} (h1 : (0 : Int) ≤ v) (h2 : v ≤ 3) : GI (m_up h 96 2 v) := G.up (q := (5, g_p96)) rfl ⟨h1, h2⟩ (by decide)
theorem g_96_3 {h : m_H} (G : GI h) : (0 : Int) ≤ h 96 3 ∧ h 96 3 ≤ 1 := G.1 96 (5, g_p96) rfl 3 (by decide)
theorem u_96_3 {h : m_H} (G : GI h) {v : Int} (h1 : (0 : Int) ≤ v) (h2 : v ≤ 1) : GI (m_up h 96 3 v) := G.up (q := (5, g_p96)) rfl ⟨h1, h2⟩ (by decide)
theorem g_96_4 {h : m_H} (G : GI h) : (0 : Int) ≤ h 96 4 ∧ h 96 4 ≤ 1 := G.1 96 (5, g_p96) rfl 4 (by decide)
theorem u_96_4 {h : m_H} (G : GI h) {v : Int} (h1 : (0 : Int) ≤ v) (h2 : v ≤ 1) : GI (m_up h 96 4 v) := G.up (q := (5, g_p96)) rfl ⟨h1, h2⟩ (by decide)
theorem u_97 {h : m_H} (G : GI h) {j : Nat} {v : Int} : GI (m_up h 97 j v) := G.up (q := (3, g_p97)) rfl trivial (by decide)
theorem u_98 {h : m_H} (G : GI h) {j : Nat} {v : Int} : GI (m_up h 98 j v) := G.up (q := (3, g_p98)) rfl trivial (by decide)
theorem g_99_0 {h : m_H} (G : GI h) : h 99 0 = ((100 : Nat) : Int) := G.1 99 (1, g_p99) rfl 0 (by decide)
theorem u_100 {h : m_H} (G : GI h) {j : Nat} {v : Int} : GI (m_up h 100 j v) := G.up (q := (16, g_p100)) rfl trivial (by decide)
theorem g_101_0 {h : m_H} (G : GI h) : h 101 0 = ((38 : Nat) : Int) := G.1 101 (4, g_p101) rfl 0 (by decide)
theorem u_101_1 {h : m_H} (G : GI h) {v : Int} : GI (m_up h 101 1 v) := G.up (q := (4, g_p101)) rfl trivial (by decide)
theorem u_101_2 {h : m_H} (G : GI h) {v : Int} : GI (m_up h 101 2 v) := G.up (q := (4, g_p101)) rfl trivial (by decide)
theorem u_101_3 {h : m_H} (G : GI h) {v : Int} : GI (m_up h 101 3 v) := G.up (q := (4, g_p101)) rfl trivial (by decide)
theorem g_102_0 {h : m_H} (G : GI h) : h 102 0 = ((38 : Nat) : Int) := G.1 102 (5, g_p102) rfl 0 (by decide)
theorem g_102_1 {h : m_H} (G : GI h) : h 102 1 = ((103 : Nat) : Int) := G.1 102 (5, g_p102) rfl 1 (by decide)
theorem g_102_2 {h : m_H} (G : GI h) : h 102 2 = ((104 : Nat) : Int) := G.1 102 (5, g_p102) rfl 2 (by decide)
theorem g_102_3 {h : m_H} (G : GI h) : (0 : Int) ≤ h 102 3 ∧ h 102 3 ≤ 3 := G.1 102 (5, g_p102) rfl 3 (by decide)
theorem u_102_3 {h : m_H} (G : GI h) {v : Int} (h1 : (0 : Int) ≤ v) (h2 : v ≤ 3) : GI (m_up h 102 3 v) := G.up (q := (5, g_p102)) rfl ⟨h1, h2⟩ (by decide)
theorem u_102_4 {h : m_H} (G : GI h) {v : Int} : GI (m_up h 102 4 v) := G.up (q := (5, g_p102)) rfl trivial (by decide)
theorem g_103 {h : m_H} (G : GI h) {j : Nat} (hj : j < 3) : (0 : Int) ≤ h 103 j ∧ h 103 j ≤ 31 := G.1 103 (3, g_p103) rfl j hj
theorem u_103 {h : m_H} (G : GI h) {j : Nat} {v : Int} (h1 : (0 : Int) ≤ v) (h2 : v ≤ 31) : GI (m_up h 103 j v) := G.up (q := (3, g_p103)) rfl ⟨h1, h2⟩ (by decide)
theorem u_104 {h : m_H} (G : GI h) {j : Nat} {v : Int} : GI (m_up h 104 j v) := G.up (q := (12, g_p104)) rfl trivial (by decide)
theorem g_105_0 {h : m_H} (G : GI h) : h 105 0 = ((106 : Nat) : Int) := G.1 105 (4, g_p105) rfl 0 (by decide)
theorem g_105_1 {h : m_H} (G : GI h) : (0 : Int) ≤ h 105 1 ∧ h 105 1 ≤ 1 := G.1 105 (4, g_p105) rfl 1 (by decide)
theorem u_105_1 {h : m_H} (G : GI h) {v : Int} (h1 : (0 : Int) ≤ v) (h2 : v ≤ 1) : GI (m_up h 105 1 v) := G.up (q := (4, g_p105)) rfl ⟨h1, h2⟩ (by decide)
theorem u_105_2 {h : m_H} (G : GI h) {v : Int} : GI (m_up h 105 2 v) := G.up (q := (4, g_p105)) rfl trivial (by decide)
theorem u_105_3 {h : m_H} (G : GI h) {v : Int} : GI (m_up h 105 3 v) := G.up (q := (4, g_p105)) rfl trivial (by decide)
theorem g_106 {h : m_H} (G : GI h) {j : Nat} (hj : j < 32) : (0 : Int) ≤ h 106 j ∧ h 106 j ≤ 3 := G.1 106 (32, g_p106) rfl j hj
theorem u_106 {h : m_H} (G : GI h) {j : Nat} {v : Int} (h1 : (0 : Int) ≤ v) (h2 : v ≤ 3) : GI (m_up h 106 j v) := G.up (q := (32, g_p106)) rfl ⟨h1, h2⟩ (by decide)
theorem u_107 {h : m_H} (G : GI h) {j : Nat} {v : Int} : GI (m_up h 107 j v) := G.up (q := (5, g_p107)) rfl trivial (by decide)
theorem u_108_0 {h : m_H} (G : GI h) {v : Int} : GI (m_up h 108 0 v) := G.up (q := (63, g_p108)) rfl trivial (by decide)
theorem u_108_1 {h : m_H} (G : GI h) {v : Int} : GI (m_up h 108 1 v) := G.up (q := (63, g_p108)) rfl trivial (by decide)
theorem g_108_2 {h : m_H} (G : GI h) : h 108 2 = ((109 : Nat) : Int) := G.1 108 (63, g_p108) rfl 2 (by decide)
theorem g_108_3 {h : m_H} (G : GI h) : h 108 3 = ((110 : Nat) : Int) := G.1 108 (63, g_p108) rfl 3 (by decide)
theorem g_108_4 {h : m_H} (G : GI h) : h 108 4 = ((111 : Nat) : Int) := G.1 108 (63, g_p108) rfl 4 (by decide)
theorem g_108_5 {h : m_H} (G : GI h) : h 108 5 = ((112 : Nat) : Int) := G.1 108 (63, g_p108) rfl 5 (by decide)
theorem u_108_6 {h : m_H} (G : GI h) {v : Int} : GI (m_up h 108 6 v) := G.up (q := (63, g_p108)) rfl trivial (by decide)
theorem g_108_7 {h : m_H} (G : GI h) : h 108 7 = ((113 : Nat) : Int) := G.1 108 (63, g_p108) rfl 7 (by decide)
theorem g_108_8 {h : m_H} (G : GI h) : (0 : Int) ≤ h 108 8 ∧ h 108 8 ≤ 400 := G.1 108 (63, g_p108) rfl 8 (by decide)
theorem u_108_8 {h : m_H} (G : GI h) {v : Int} (h1 : (0 : Int) ≤ v) (h2 : v ≤ 400) : GI (m_up h 108 8 v) := G.up (q := (63, g_p108)) rfl ⟨h1, h2⟩ (by decide)
theorem g_108_9 {h : m_H} (G : GI h) : (0 : Int) ≤ h 108 9 ∧ h 108 9 ≤ 400 := G.1 108 (63, g_p108) rfl 9 (by decide)
theorem u_108_9 {h : m_H} (G : GI h) {v : Int} (h1 : (0 : Int) ≤ v) (h2 : v ≤ 400) : GI (m_up h 108 9 v) := G.up (q := (63, g_p108)) rfl ⟨h1, h2⟩ (by decide)
theorem g_108_10 {h : m_H} (G : GI h) : (0 : Int) ≤ h 108 10 ∧ h 108 10 ≤ 400 := G.1 108 (63, g_p108) rfl 10 (by decide)
theorem u_108_10 {h : m_H} (G : GI h) {v : Int} (h1 : (0 : Int) ≤ v) (h2 : v ≤ 400) : GI (m_up h 108 10 v) := G.up (q := (63, g_p108)) rfl ⟨h1, h2⟩ (by decide)
theorem g_108_11 {h : m_H} (G : GI h) : (0 : Int) ≤ h 108 11 ∧ h 108 11 ≤ 3 := G.1 108 (63, g_p108) rfl 11 (by decide)
theorem u_108_11 {h : m_H} (G : GI h) {v : Int} (h1 : (0 : Int) ≤ v) (h2 : v ≤ 3) : GI (m_up h 108 11 v) := G.up (q := (63, g_p108)) rfl ⟨h1, h2⟩ (by decide)
theorem u_108_12 {h : m_H} (G : GI h) {v : Int} : GI (m_up h 108 12 v) := G.up (q := (63, g_p108)) rfl trivial (by decide)
theorem u_108_13 {h : m_H} (G : GI h) {v : Int} : GI (m_up h 108 13 v) := G.up (q := (63, g_p108)) rfl trivial (by decide)
theorem g_108_14 {h : m_H} (G : GI h) : (0 : Int) ≤ h 108 14 ∧ h 108 14 ≤ 1 := G.1 108 (63, g_p108) rfl 14 (by decide)
theorem u_108_14 {h : m_H} (G : GI h) {v : Int} (h1 : (0 : Int) ≤ v) (h2 : v ≤ 1) : GI (m_up h 108 14 v) := G.up (q := (63, g_p108)) rfl ⟨h1, h2⟩ (by decide)
theorem g_108_15 {h : m_H} (G : GI h) : h 108 15 = ((114 : Nat) : Int) := G.1 108 (63, g_p108) rfl 15 (by decide)
theorem g_108_16 {h : m_H} (G : GI h) : (0 : Int) ≤ h 108 16 ∧ h 108 16 ≤ 200 := G.1 108 (63, g_p108) rfl 16 (by decide)
theorem u_108_16 {h : m_H} (G : GI h) {v : Int} (h1 : (0 : Int) ≤ v) (h2 : v ≤ 200) : GI (m_up h 108 16 v) := G.up (q := (63, g_p108)) rfl ⟨h1, h2⟩ (by decide)
theorem g_108_17 {h : m_H} (G : GI h) : (0 : Int) ≤ h 108 17 ∧ h 108 17 ≤ 24 := G.1 108 (63, g_p108) rfl 17 (by decide)
theorem u_108_17 {h : m_H} (G : GI h) {v : Int} (h1 : (0 : Int) ≤ v) (h2 : v ≤ 24) : GI (m_up h 108 17 v) := G.up (q := (63, g_p108)) rfl ⟨h1, h2⟩ (by decide)
theorem g_108_18 {h : m_H} (G : GI h) : (0 : Int) ≤ h 108 18 ∧ h 108 18 ≤ 6 := G.1 108 (63, g_p108) rfl 18 (by decide)
theorem u_108_18 {h : m_H} (G : GI h) {v : Int} (h1 : (0 : Int) ≤ v) (h2 : v ≤ 6) : GI (m_up h 108 18 v) := G.up (q := (63, g_p108)) rfl ⟨h1, h2⟩ (by decide)
theorem g_108_19 {h : m_H} (G : GI h) : h 108 19 = ((115 : Nat) : Int) := G.1 108 (63, g_p108) rfl 19 (by decide)
theorem g_108_20 {h : m_H} (G : GI h) : h 108 20 = ((116 : Nat) : Int) := G.1 108 (63, g_p108) rfl 20 (by decide)
theorem g_108_21 {h : m_H} (G : GI h) : (0 : Int) ≤ h 108 21 ∧ h 108 21 ≤ 60 := G.1 108 (63, g_p108) rfl 21 (by decide)
theorem u_108_21 {h : m_H} (G : GI h) {v : Int} (h1 : (0 : Int) ≤ v) (h2 : v ≤ 60) : GI (m_up h 108 21 v) := G.up (q := (63, g_p108)) rfl ⟨h1, h2⟩ (by decide)
theorem g_108_22 {h : m_H} (G : GI h) : h 108 22 = ((117 : Nat) : Int) := G.1 108 (63, g_p108) rfl 22 (by decide)
theorem g_108_23 {h : m_H} (G : GI h) : h 108 23 = ((118 : Nat) : Int) := G.1 108 (63, g_p108) rfl 23 (by decide)
theorem g_108_24 {h : m_H} (G : GI h) : h 108 24 = ((119 : Nat) : Int) := G.1 108 (63, g_p108) rfl 24 (by decide)
theorem g_108_25 {h : m_H} (G : GI h) : h 108 25 = ((120 : Nat) : Int) := G.1 108 (63, g_p108) rfl 25 (by decide)
theorem g_108_26 {h : m_H} (G : GI h) : h 108 26 = ((121 : Nat) : Int) := G.1 108 (63, g_p108) rfl 26 (by decide)
theorem g_108_27 {h : m_H} (G : GI h) : h 108 27 = ((122 : Nat) : Int) := G.1 108 (63, g_p108) rfl 27 (by decide)
theorem g_108_28 {h : m_H} (G : GI h) : h 108 28 = ((123 : Nat) : Int) := G.1 108 (63, g_p108) rfl 28 (by decide)
theorem g_108_29 {h : m_H} (G : GI h) : h 108 29 = ((124 : Nat) : Int) := G.1 108 (63, g_p108) rfl 29 (by decide)
theorem g_108_30 {h : m_H} (G : GI h) : h 108 30 = ((125 : Nat) : Int) := G.1 108 (63, g_p108) rfl 30 (by decide)
theorem g_108_31 {h : m_H} (G : GI h) : h 108 31 = ((126 : Nat) : Int) := G.1 108 (63, g_p108) rfl 31 (by decide)
theorem g_108_32 {h : m_H} (G : GI h) : h 108 32 = ((127 : Nat) : Int) := G.1 108 (63, g_p108) rfl 32 (by decide)
theorem g_108_33 {h : m_H} (G : GI h) : h 108 33 = ((128 : Nat) : Int) := G.1 108 (63, g_p108) rfl 33 (by decide)
theorem g_108_34 {h : m_H} (G : GI h) : h 108 34 = ((129 : Nat) : Int) := G.1 108 (63, g_p108) rfl 34 (by decide)
theorem g_108_35 {h : m_H} (G : GI h) : h 108 35 = ((130 : Nat) : Int) := G.1 108 (63, g_p108) rfl 35 (by decide)
theorem g_108_36 {h : m_H} (G : GI h) : h 108 36 = ((131 : Nat) : Int) := G.1 108 (63, g_p108) rfl 36 (by decide)
theorem g_108_37 {h : m_H} (G : GI h) : h 108 37 = ((132 : Nat) : Int) := G.1 108 (63, g_p108) rfl 37 (by decide)
theorem g_108_38 {h : m_H} (G : GI h) : h 108 38 = ((133 : Nat) : Int) := G.1 108 (63, g_p108) rfl 38 (by decide)
theorem g_108_39 {h : m_H} (G : GI h) : h 108 39 = ((134 : Nat) : Int) := G.1 108 (63, g_p108) rfl 39 (by decide)
theorem g_108_40 {h : m_H} (G : GI h) : h 108 40 = ((135 : Nat) : Int) := G.1 108 (63, g_p108) rfl 40 (by decide)
theorem g_108_41 {h : m_H} (G : GI h) : h 108 41 = ((136 : Nat) : Int) := G.1 108 (63, g_p108) rfl 41 (by decide)
theorem g_108_42 {h : m_H} (G : GI h) : h 108 42 = ((137 : Nat) : Int) := G.1 108 (63, g_p108) rfl 42 (by decide)
theorem g_108_43 {h : m_H} (G : GI h) : h 108 43 = ((138 : Nat) : Int) := G.1 108 (63, g_p108) rfl 43 (by decide)
theorem g_108_44 {h : m_H} (G : GI h) : (0 : Int) ≤ h 108 44 ∧ h 108 44 ≤ 1 := G.1 108 (63, g_p108) rfl 44 (by decide)
theorem u_108_44 {h : m_H} (G : GI h) {v : Int} (h1 : (0 : Int) ≤ v) (h2 : v ≤ 1) : GI (m_up h 108 44 v) := G.up (q := (63, g_p108)) rfl ⟨h1, h2⟩ (by decide)
theorem g_108_45 {h : m_H} (G : GI h) : (0 : Int) ≤ h 108 45 ∧ h 108 45 ≤ 1 := G.1 108 (63, g_p108) rfl 45 (by decide)
theorem u_108_45 {h : m_H} (G : GI h) {v : Int} (h1 : (0 : Int) ≤ v) (h2 : v ≤ 1) : GI (m_up h 108 45 v) := G.up (q := (63, g_p108)) rfl ⟨h1, h2⟩ (by decide)
theorem g_108_46 {h : m_H} (G : GI h) : (0 : Int) ≤ h 108 46 ∧ h 108 46 ≤ 1 := G.1 108 (63, g_p108) rfl 46 (by decide)
theorem u_108_46 {h : m_H} (G : GI h) {v : Int} (h1 : (0 : Int) ≤ v) (h2 : v ≤ 1) : GI (m_up h 108 46 v) := G.up (q := (63, g_p108)) rfl ⟨h1, h2⟩ (by decide)
theorem g_108_47 {h : m_H} (G : GI h) : (0 : Int) ≤ h 108 47 ∧ h 108 47 ≤ 1 := G.1 108 (63, g_p108) rfl 47 (by decide)
theorem u_108_47 {h : m_H} (G : GI h) {v : Int} (h1 : (0 : Int) ≤ v) (h2 : v ≤ 1) : GI (m_up h 108 47 v) := G.up (q := (63, g_p108)) rfl ⟨h1, h2⟩ (by decide)
theorem g_108_48 {h : m_H} (G : GI h) : h 108 48 = ((139 : Nat) : Int) := G.1 108 (63, g_p108) rfl 48 (by decide)
theorem g_108_49 {h : m_H} (G : GI h) : h 108 49 = ((140 : Nat) : Int) := G.1 108 (63, g_p108) rfl 49 (by decide)
theorem g_108_50 {h : m_H} (G : GI h) : h 108 50 = ((141 : Nat) : Int) := G.1 108 (63, g_p108) rfl 50 (by decide)
theorem g_108_51 {h : m_H} (G : GI h) : h 108 51 = ((142 : Nat) : Int) := G.1 108 (63, g_p108) rfl 51 (by decide)
theorem g_108_52 {h : m_H} (G : GI h) : h 108 52 = ((143 : Nat) : Int) := G.1 108 (63, g_p108) rfl 52 (by decide)
theorem g_108_53 {h : m_H} (G : GI h) : h 108 53 = ((144 : Nat) : Int) := G.1 108 (63, g_p108) rfl 53 (by decide)
theorem g_108_54 {h : m_H} (G : GI h) : (0 : Int) ≤ h 108 54 ∧ h 108 54 ≤ 1 := G.1 108 (63, g_p108) rfl 54 (by decide)
theorem u_108_54 {h : m_H} (G : GI h) {v : Int} (h1 : (0 : Int) ≤ v) (h2 : v ≤ 1) : GI (m_up h 108 54 v) := G.up (q := (63, g_p108)) rfl ⟨h1, h2⟩ (by decide)
theorem g_108_55 {h : m_H} (G : GI h) : (0 : Int) ≤ h 108 55 ∧ h 108 55 ≤ 1 := G.1 108 (63, g_p108) rfl 55 (by decide)
theorem u_108_55 {h : m_H} (G : GI h) {v : Int} (h1 : (0 : Int) ≤ v) (h2 : v ≤ 1) : GI (m_up h 108 55 v) := G.up (q := (63, g_p108)) rfl ⟨h1, h2⟩ (by decide)
theorem g_108_56 {h : m_H} (G : GI h) : h 108 56 = ((145 : Nat) : Int) := G.1 108 (63, g_p108) rfl 56 (by decide)
theorem g_108_57 {h : m_H} (G : GI h) : h 108 57 = ((146 : Nat) : Int) := G.1 108 (63, g_p108) rfl 57 (by decide)
theorem g_108_58 {h : m_H} (G : GI h) : (0 : Int) ≤ h 108 58 ∧ h 108 58 ≤ 3 := G.1 108 (63, g_p108) rfl 58 (by decide)
theorem u_108_58 {h : m_H} (G : GI h) {v : Int} (h1 : (0 : Int) ≤ v) (h2 : v ≤ 3) : GI (m_up h 108 58 v) := G.up (q := (63, g_p108)) rfl ⟨h1, h2⟩ (by decide)
theorem g_108_59 {h : m_H} (G : GI h) : h 108 59 = ((147 : Nat) : Int) := G.1 108 (63, g_p108) rfl 59 (by decide)
theorem g_108_60 {h : m_H} (G : GI h) : (0 : Int) ≤ h 108 60 ∧ h 108 60 ≤ 1 := G.1 108 (63, g_p108) rfl 60 (by decide)
theorem u_108_60 {h : m_H} (G : GI h) {v : Int} (h1 : (0 : Int) ≤ v) (h2 : v ≤ 1) : GI (m_up h 108 60 v) := G.up (q := (63, g_p108)) rfl ⟨h1, h2⟩ (by decide)
theorem g_108_61 {h : m_H} (G : GI h) : (-1 : Int) ≤ h 108 61 ∧ h 108 61 ≤ 31 := G.1 108 (63, g_p108) rfl 61 (by decide)
theorem u_108_61 {h : m_H} (G : GI h) {v : Int} (h1 : (-1 : Int) ≤ v) (h2 : v ≤ 31) : GI (m_up h 108 61 v) := G.up (q := (63, g_p108)) rfl ⟨h1, h2⟩ (by decide)
theorem g_108_62 {h : m_H} (G : GI h) : (-1 : Int) ≤ h 108 62 ∧ h 108 62 ≤ 31 := G.1 108 (63, g_p108) rfl 62 (by decide)
theorem u_108_62 {h : m_H} (G : GI h) {v : Int} (h1 : (-1 : Int) ≤ v) (h2 : v ≤ 31) : GI (m_up h 108 62 v) := G.up (q := (63, g_p108)) rfl ⟨h1, h2⟩ (by decide)
theorem u_109 {h : m_H} (G : GI h) {j : Nat} {v : Int} : GI (m_up h 109 j v) := G.up (q := (7, g_p109)) rfl trivial (by decide)
theorem g_110 {h : m_H} (G : GI h) {j : Nat} (hj : j < 200) : r_lo j ≤ h 110 j ∧ h 110 j ≤ r_hi j := G.1 110 (200, g_p110) rfl j hj
theorem u_110 {h : m_H} (G : GI h) {j : Nat} {v : Int} (h1 : r_lo j ≤ v) (h2 : v ≤ r_hi j) : GI (m_up h 110 j v) := G.up (q := (200, g_p110)) rfl ⟨h1, h2⟩ (by decide)
theorem g_112 {h : m_H} (G : GI h) {j : Nat} (hj : j < 2) : (0 : Int) ≤ h 112 j ∧ h 112 j ≤ 1 := G.1 112 (2, g_p112) rfl j hj
theorem g_113 {h : m_H} (G : GI h) {j : Nat} (hj : j < 400) : (0 : Int) ≤ h 113 j ∧ h 113 j ≤ 255 := G.1 113 (400, g_p113) rfl j hj
theorem u_113 {h : m_H} (G : GI h) {j : Nat} {v : Int} (h1 : (0 : Int) ≤ v) (h2 : v ≤ 255) : GI (m_up h 113 j v) := G.up (q := (400, g_p113)) rfl ⟨h1, h2⟩ (by decide)
theorem u_114 {h : m_H} (G : GI h) {j : Nat} {v : Int} : GI (m_up h 114 j v) := G.up (q := (1000, g_p114)) rfl trivial (by decide)
theorem u_115 {h : m_H} (G : GI h) {j : Nat} {v : Int} : GI (m_up h 115 j v) := G.up (q := (10, g_p115)) rfl trivial (by decide)
theorem u_116 {h : m_H} (G : GI h) {j : Nat} {v : Int} : GI (m_up h 116 j v) := G.up (q := (10, g_p116)) rfl trivial (by decide)
theorem g_117 {h : m_H} (G : GI h) {j : Nat} (hj : j < 60) : (0 : Int) ≤ h 117 j ∧ h 117 j ≤ 15 := G.1 117 (60, g_p117) rfl j hj
theorem u_117 {h : m_H} (G : GI h) {j : Nat} {v : Int} (h1 : (0 : Int) ≤ v) (h2 : v ≤ 15) : GI (m_up h 117 j v) := G.up (q := (60, g_p117)) rfl ⟨h1, h2⟩ (by decide)
theorem g_118 {h : m_H} (G : GI h) {j : Nat} (hj : j < 60) : (0 : Int) ≤ h 118 j ∧ h 118 j ≤ 15 := G.1 118 (60, g_p118) rfl j hj
theorem u_118 {h : m_H} (G : GI h) {j : Nat} {v : Int} (h1 : (0 : Int) ≤ v) (h2 : v ≤ 15) : GI (m_up h 118 j v) := G.up (q := (60, g_p118)) rfl ⟨h1, h2⟩ (by decide)
theorem g_119 {h : m_H} (G : GI h) {j : Nat} (hj : j < 60) : (0 : Int) ≤ h 119 j ∧ h 119 j ≤ 199 := G.1 119 (60, g_p119) rfl j hj
theorem u_119 {h : m_H} (G : GI h) {j : Nat} {v : Int} (h1 : (0 : Int) ≤ v) (h2 : v ≤ 199) : GI (m_up h 119 j v) := G.up (q := (60, g_p119)) rfl ⟨h1, h2⟩ (by decide)
theorem g_120 {h : m_H} (G : GI h) {j : Nat} (hj : j < 60) : (0 : Int) ≤ h 120 j ∧ h 120 j ≤ 199 := G.1 120 (60, g_p120) rfl j hj
theorem u_120 {h : m_H} (G : GI h) {j : Nat} {v : Int} (h1 : (0 : Int) ≤ v) (h2 : v ≤ 199) : GI (m_up h 120 j v) := G.up (q := (60, g_p120)) rfl ⟨h1, h2⟩ (by decide)
theorem g_121 {h : m_H} (G : GI h) {j : Nat} (hj : j < 60) : (0 : Int) ≤ h 121 j ∧ h 121 j ≤ 1 := G.1 121 (60, g_p121) rfl j hj
theorem u_121 {h : m_H} (G : GI h) {j : Nat} {v : Int} (h1 : (0 : Int) ≤ v) (h2 : v ≤ 1) : GI (m_up h 121 j v) := G.up (q := (60, g_p121)) rfl ⟨h1, h2⟩ (by decide)
theorem g_122 {h : m_H} (G : GI h) {j : Nat} (hj : j < 32) : (-1 : Int) ≤ h 122 j ∧ h 122 j ≤ 3 := G.1 122 (32, g_p122) rfl j hj
theorem u_122 {h : m_H} (G : GI h) {j : Nat} {v : Int} (h1 : (-1 : Int) ≤ v) (h2 : v ≤ 3) : GI (m_up h 122 j v) := G.up (q := (32, g_p122)) rfl ⟨h1, h2⟩ (by decide)
theorem g_123 {h : m_H} (G : GI h) {j : Nat} (hj : j < 6) : (-1 : Int) ≤ h 123 j ∧ h 123 j ≤ 31 := G.1 123 (6, g_p123) rfl j hj
theorem u_123 {h : m_H} (G : GI h) {j : Nat} {v : Int} (h1 : (-1 : Int) ≤ v) (h2 : v ≤ 31) : GI (m_up h 123 j v) := G.up (q := (6, g_p123)) rfl ⟨h1, h2⟩ (by decide)
theorem g_124 {h : m_H} (G : GI h) {j : Nat} (hj : j < 80) : (0 : Int) ≤ h 124 j ∧ h 124 j ≤ 99999999 := G.1 124 (80, g_p124) rfl j hj
theorem u_124 {h : m_H} (G : GI h) {j : Nat} {v : Int} (h1 : (0 : Int) ≤ v) (h2 : v ≤ 99999999) : GI (m_up h 124 j v) := G.up (q := (80, g_p124)) rfl ⟨h1, h2⟩ (by decide)
theorem g_125 {h : m_H} (G : GI h) {j : Nat} (hj : j < 80) : (0 : Int) ≤ h 125 j ∧ h 125 j ≤ 99999999 := G.1 125 (80, g_p125) rfl j hj
theorem u_125 {h : m_H} (G : GI h) {j : Nat} {v : Int} (h1 : (0 : Int) ≤ v) (h2 : v ≤ 99999999) : GI (m_up h 125 j v) := G.up (q := (80, g_p125)) rfl ⟨h1, h2⟩ (by decide)
theorem g_126 {h : m_H} (G : GI h) {j : Nat} (hj : j < 16) : (0 : Int) ≤ h 126 j ∧ h 126 j ≤ 1 := G.1 126 (16, g_p126) rfl j hj
theorem u_126 {h : m_H} (G : GI h) {j : Nat} {v : Int} (h1 : (0 : Int) ≤ v) (h2 : v ≤ 1) : GI (m_up h 126 j v) := G.up (q := (16, g_p126)) rfl ⟨h1, h2⟩ (by decide)
theorem g_127 {h : m_H} (G : GI h) {j : Nat} (hj : j < 16) : (0 : Int) ≤ h 127 j ∧ h 127 j ≤ 1 := G.1 127 (16, g_p127) rfl j hj
theorem u_127 {h : m_H} (G : GI h) {j : Nat} {v : Int} (h1 : (0 : Int) ≤ v) (h2 : v ≤ 1) : GI (m_up h 127 j v) := G.up (q := (16, g_p127)) rfl ⟨h1, h2⟩ (by decide)
theorem g_128 {h : m_H} (G : GI h) {j : Nat} (hj : j < 80) : (0 : Int) ≤ h 128 j ∧ h 128 j ≤ 99999999 := G.1 128 (80, g_p128) rfl j hj
theorem u_128 {h : m_H} (G : GI h) {j : Nat} {v : Int} (h1 : (0 : Int) ≤ v) (h2 : v ≤ 99999999) : GI (m_up h 128 j v) := G.up (q := (80, g_p128)) rfl ⟨h1, h2⟩ (by decide)
theorem g_129 {h : m_H} (G : GI h) {j : Nat} (hj : j < 80) : (0 : Int) ≤ h 129 j ∧ h 129 j ≤ 99999999 := G.1 129 (80, g_p129) rfl j hj
theorem u_129 {h : m_H} (G : GI h) {j : Nat} {v : Int} (h1 : (0 : Int) ≤ v) (h2 : v ≤ 99999999) : GI (m_up h 129 j v) := G.up (q := (80, g_p129)) rfl ⟨h1, h2⟩ (by decide)
theorem g_130 {h : m_H} (G : GI h) {j : Nat} (hj : j < 16) : (0 : Int) ≤ h 130 j ∧ h 130 j ≤ 1 := G.1 130 (16, g_p130) rfl j hj
theorem u_130 {h : m_H} (G : GI h) {j : Nat} {v : Int} (h1 : (0 : Int) ≤ v) (h2 : v ≤ 1) : GI (m_up h 130 j v) := G.up (q := (16, g_p130)) rfl ⟨h1, h2⟩ (by decide)
theorem g_131 {h : m_H} (G : GI h) {j : Nat} (hj : j < 16) : (0 : Int) ≤ h 131 j ∧ h 131 j ≤ 1 := G.1 131 (16, g_p131) rfl j hj
theorem u_131 {h : m_H} (G : GI h) {j : Nat} {v : Int} (h1 : (0 : Int) ≤ v) (h2 : v ≤ 1) : GI (m_up h 131 j v) := G.up (q := (16, g_p131)) rfl ⟨h1, h2⟩ (by decide)
theorem g_132 {h : m_H} (G : GI h) {j : Nat} (hj : j < 5) : (0 : Int) ≤ h 132 j ∧ h 132 j ≤ 99999999 := G.1 132 (5, g_p132) rfl j hj
theorem u_132 {h : m_H} (G : GI h) {j : Nat} {v : Int} (h1 : (0 : Int) ≤ v) (h2 : v ≤ 99999999) : GI (m_up h 132 j v) := G.up (q := (5, g_p132)) rfl ⟨h1, h2⟩ (by decide)
theorem g_133 {h : m_H} (G : GI h) {j : Nat} (hj : j < 5) : (0 : Int) ≤ h 133 j ∧ h 133 j ≤ 99999999 := G.1 133 (5, g_p133) rfl j hj
theorem u_133 {h : m_H} (G : GI h) {j : Nat} {v : Int} (h1 : (0 : Int) ≤ v) (h2 : v ≤ 99999999) : GI (m_up h 133 j v) := G.up (q := (5, g_p133)) rfl ⟨h1, h2⟩ (by decide)
theorem g_134 {h : m_H} (G : GI h) {j : Nat} (hj : j < 256) : (0 : Int) ≤ h 134 j ∧ h 134 j ≤ 1 := G.1 134 (256, g_p134) rfl j hj
theorem u_134 {h : m_H} (G : GI h) {j : Nat} {v : Int} (h1 : (0 : Int) ≤ v) (h2 : v ≤ 1) : GI (m_up h 134 j v) := G.up (q := (256, g_p134)) rfl ⟨h1, h2⟩ (by decide)
theorem u_135 {h : m_H} (G : GI h) {j : Nat} {v : Int} : GI (m_up h 135 j v) := G.up (q := (10, g_p135)) rfl trivial (by decide)
theorem u_136 {h : m_H} (G : GI h) {j : Nat} {v : Int} : GI (m_up h 136 j v) := G.up (q := (10, g_p136)) rfl trivial (by decide)
theorem g_137 {h : m_H} (G : GI h) {j : Nat} (hj : j < 5) : (0 : Int) ≤ h 137 j ∧ h 137 j ≤ 1 := G.1 137 (5, g_p137) rfl j hj
theorem u_137 {h : m_H} (G : GI h) {j : Nat} {v : Int} (h1 : (0 : Int) ≤ v) (h2 : v ≤ 1) : GI (m_up h 137 j v) := G.up (q := (5, g_p137)) rfl ⟨h1, h2⟩ (by decide)
theorem g_138 {h : m_H} (G : GI h) {j : Nat} (hj : j < 20) : (0 : Int) ≤ h 138 j ∧ h 138 j ≤ 99999999 := G.1 138 (20, g_p138) rfl j hj
theorem u_138 {h : m_H} (G : GI h) {j : Nat} {v : Int} (h1 : (0 : Int) ≤ v) (h2 : v ≤ 99999999) : GI (m_up h 138 j v) := G.up (q := (20, g_p138)) rfl ⟨h1, h2⟩ (by decide)
theorem u_139 {h : m_H} (G : GI h) {j : Nat} {v : Int} : GI (m_up h 139 j v) := G.up (q := (10, g_p139)) rfl trivial (by decide)
theorem u_140 {h : m_H} (G : GI h) {j : Nat} {v : Int} : GI (m_up h 140 j v) := G.up (q := (10, g_p140)) rfl trivial (by decide)
theorem u_141 {h : m_H} (G : GI h) {j : Nat} {v : Int} : GI (m_up h 141 j v) := G.up (q := (10, g_p141)) rfl trivial (by decide)
theorem u_142 {h : m_H} (G : GI h) {j : Nat} {v : Int} : GI (m_up h 142 j v) := G.up (q := (10, g_p142)) rfl trivial (by decide)
theorem u_143 {h : m_H} (G : GI h) {j : Nat} {v : Int} : GI (m_up h 143 j v) := G.up (q := (3, g_p143)) rfl trivial (by decide)
theorem u_144 {h : m_H} (G : GI h) {j : Nat} {v : Int} : GI (m_up h 144 j v) := G.up (q := (3, g_p144)) rfl trivial (by decide)
theorem g_145 {h : m_H} (G : GI h) {j : Nat} (hj : j < 16) : (0 : Int) ≤ h 145 j ∧ h 145 j ≤ 15 := G.1 145 (16, g_p145) rfl j hj
theorem u_145 {h : m_H} (G : GI h) {j : Nat} {v : Int} (h1 : (0 : Int) ≤ v) (h2 : v ≤ 15) : GI (m_up h 145 j v) := G.up (q := (16, g_p145)) rfl ⟨h1, h2⟩ (by decide)
theorem g_146 {h : m_H} (G : GI h) {j : Nat} (hj : j < 3) : (0 : Int) ≤ h 146 j ∧ h 146 j ≤ 31 := G.1 146 (3, g_p146) rfl j hj
theorem u_146 {h : m_H} (G : GI h) {j : Nat} {v : Int} (h1 : (0 : Int) ≤ v) (h2 : v ≤ 31) : GI (m_up h 146 j v) := G.up (q := (3, g_p146)) rfl ⟨h1, h2⟩ (by decide)
theorem g_147 {h : m_H} (G : GI h) {j : Nat} (hj : j < 32) : (0 : Int) ≤ h 147 j ∧ h 147 j ≤ 3 := G.1 147 (32, g_p147) rfl j hj
theorem u_147 {h : m_H} (G : GI h) {j : Nat} {v : Int} (h1 : (0 : Int) ≤ v) (h2 : v ≤ 3) : GI (m_up h 147 j v) := G.up (q := (32, g_p147)) rfl ⟨h1, h2⟩ (by decide)
def isL (L : Nat) : Prop := L = 1 ∨ L = 9 ∨ L = 18 ∨ L = 26
theorem oL {L : Nat} (hL : isL L) : oF[L]? = some (4 + 5, 10) := by rcases hL with rfl | rfl | rfl | rfl <;> rfl
theorem oL_1 {L : Nat} (hL : isL L) : oF[L + 1]? = some (0, 32) := by rcases hL with rfl | rfl | rfl | rfl <;> rfl
theorem rL_0 {h : m_H} {L : Nat} (hL : isL L) (G : GI h) : h L 0 = ((L + 1 : Nat) : Int) := by rcases hL with rfl | rfl | rfl | rfl <;> first | exact g_1_0 G | exact g_9_0 G | exact g_18_0 G | exact g_26_0 G
theorem gL_1 {h : m_H} {L : Nat} (hL : isL L) (G : GI h) {j : Nat} (hj : j < 32) : (-1 : Int) ≤ h (L + 1) j ∧ h (L + 1) j ≤ 3 := by rcases hL with rfl | rfl | rfl | rfl <;> first | exact g_2 G hj | exact g_10 G hj | exact g_19 G hj | exact g_27 G hj
theorem uL_1 {h : m_H} {L : Nat} (hL : isL L) (G : GI h) {j : Nat} {v : Int} (h1 : (-1 : Int) ≤ v) (h2 : v ≤ 3) : GI (m_up h (L + 1) j v) := by rcases hL with rfl | rfl | rfl | rfl <;> first | exact u_2 G h1 h2 | exact u_10 G h1 h2 | exact u_19 G h1 h2 | exact u_27 G h1 h2
theorem oL_2 {L : Nat} (hL : isL L) : oF[L + 2]? = some (0, 6) := by rcases hL with rfl | rfl | rfl | rfl <;> rfl
theorem rL_1 {h : m_H} {L : Nat} (hL : isL L) (G : GI h) : h L 1 = ((L + 2 : Nat) : Int) := by rcases hL with rfl | rfl | rfl | rfl <;> first | exact g_1_1 G | exact g_9_1 G | exact g_18_1 G | exact g_26_1 G
theorem gL_2 {h : m_H} {L : Nat} (hL : isL L) (G : GI h) {j : Nat} (hj : j < 6) : (-1 : Int) ≤ h (L + 2) j ∧ h (L + 2) j ≤ 31 := by rcases hL with rfl | rfl | rfl | rfl <;> first | exact g_3 G hj | exact g_11 G hj | exact g_20 G hj | exact g_28 G hj
theorem uL_2 {h : m_H} {L : Nat} (hL : isL L) (G : GI h) {j : Nat} {v : Int} (h1 : (-1 : Int) ≤ v) (h2 : v ≤ 31) : GI (m_up h (L + 2) j v) := by rcases hL with rfl | rfl | rfl | rfl <;> first | exact u_3 G h1 h2 | exact u_11 G h1 h2 | exact u_20 G h1 h2 | exact u_28 G h1 h2
theorem oL_3 {L : Nat} (hL : isL L) : oF[L + 3]? = some (0, 24) := by rcases hL with rfl | rfl | rfl | rfl <;> rfl
theorem rL_2 {h : m_H} {L : Nat} (hL : isL L) (G : GI h) : h L 2 = ((L + 3 : Nat) : Int) := by rcases hL with rfl | rfl | rfl | rfl <;> first | exact g_1_2 G | exact g_9_2 G | exact g_18_2 G | exact g_26_2 G
theorem gL_3 {h : m_H} {L : Nat} (hL : isL L) (G : GI h) {j : Nat} (hj : j < 24) : (0 : Int) ≤ h (L + 3) j ∧ h (L + 3) j ≤ 5 := by rcases hL with rfl | rfl | rfl | rfl <;> first | exact g_4 G hj | exact g_12 G hj | exact g_21 G hj | exact g_29 G hj
theorem uL_3 {h : m_H} {L : Nat} (hL : isL L) (G : GI h) {j : Nat} {v : Int} (h1 : (0 : Int) ≤ v) (h2 : v ≤ 5) : GI (m_up h (L + 3) j v) := by rcases hL with rfl | rfl | rfl | rfl <;> first | exact u_4 G h1 h2 | exact u_12 G h1 h2 | exact u_21 G h1 h2 | exact u_29 G h1 h2
theorem oL_4 {L : Nat} (hL : isL L) : oF[L + 4]? = some (0, 24) := by rcases hL with rfl | rfl | rfl | rfl <;> rfl
theorem rL_3 {h : m_H} {L : Nat} (hL : isL L) (G : GI h) : h L 3 = ((L + 4 : Nat) : Int) := by rcases hL with rfl | rfl | rfl | rfl <;> first | exact g_1_3 G | exact g_9_3 G | exact g_18_3 G | exact g_26_3 G
theorem gL_4 {h : m_H} {L : Nat} (hL : isL L) (G : GI h) {j : Nat} (hj : j < 24) : (0 : Int) ≤ h (L + 4) j ∧ h (L + 4) j ≤ 31 := by rcases hL with rfl | rfl | rfl | rfl <;> first | exact g_5 G hj | exact g_13 G hj | exact g_22 G hj | exact g_30 G hj
theorem uL_4 {h : m_H} {L : Nat} (hL : isL L) (G : GI h) {j : Nat} {v : Int} (h1 : (0 : Int) ≤ v) (h2 : v ≤ 31) : GI (m_up h (L + 4) j v) := by rcases hL with rfl | rfl | rfl | rfl <;> first | exact u_5 G h1 h2 | exact u_13 G h1 h2 | exact u_22 G h1 h2 | exact u_30 G h1 h2
theorem oL_5 {L : Nat} (hL : isL L) : oF[L + 5]? = some (0, 24) := by rcases hL with rfl | rfl | rfl | rfl <;> rfl
theorem rL_4 {h : m_H} {L : Nat} (hL : isL L) (G : GI h) : h L 4 = ((L + 5 : Nat) : Int) := by rcases hL with rfl | rfl | rfl | rfl <;> first | exact g_1_4 G | exact g_9_4 G | exact g_18_4 G | exact g_26_4 G
theorem gL_5 {h : m_H} {L : Nat} (hL : isL L) (G : GI h) {j : Nat} (hj : j < 24) : (0 : Int) ≤ h (L + 5) j ∧ h (L + 5) j ≤ 99 := by rcases hL with rfl | rfl | rfl | rfl <;> first | exact g_6 G hj | exact g_14 G hj | exact g_23 G hj | exact g_31 G hj
theorem uL_5 {h : m_H} {L : Nat} (hL : isL L) (G : GI h) {j : Nat} {v : Int} (h1 : (0 : Int) ≤ v) (h2 : v ≤ 99) : GI (m_up h (L + 5) j v) := by rcases hL with rfl | rfl | rfl | rfl <;> first | exact u_6 G h1 h2 | exact u_14 G h1 h2 | exact u_23 G h1 h2 | exact u_31 G h1 h2
theorem oL_6 {L : Nat} (hL : isL L) : oF[L + 6]? = some (0, 24) := by rcases hL with rfl | rfl | rfl | rfl <;> rfl
theorem rL_5 {h : m_H} {L : Nat} (hL : isL L) (G : GI h) : h L 5 = ((L + 6 : Nat) : Int) := by rcases hL with rfl | rfl | rfl | rfl <;> first | exact g_1_5 G | exact g_9_5 G | exact g_18_5 G | exact g_26_5 G
theorem gL_6 {h : m_H} {L : Nat} (hL : isL L) (G : GI h) {j : Nat} (hj : j < 24) : (0 : Int) ≤ h (L + 6) j ∧ h (L + 6) j ≤ 2 := by rcases hL with rfl | rfl | rfl | rfl <;> first | exact g_7 G hj | exact g_15 G hj | exact g_24 G hj | exact g_32 G hj
theorem uL_6 {h : m_H} {L : Nat} (hL : isL L) (G : GI h) {j : Nat} {v : Int} (h1 : (0 : Int) ≤ v) (h2 : v ≤ 2) : GI (m_up h (L + 6) j v) := by rcases hL with rfl | rfl | rfl | rfl <;> first | exact u_7 G h1 h2 | exact u_15 G h1 h2 | exact u_24 G h1 h2 | exact u_32 G h1 h2
theorem oL_7 {L : Nat} (hL : isL L) : oF[L + 7]? = some (0, 16) := by rcases hL with rfl | rfl | rfl | rfl <;> rfl
theorem rL_6 {h : m_H} {L : Nat} (hL : isL L) (G : GI h) : h L 6 = ((L + 7 : Nat) : Int) := by rcases hL with rfl | rfl | rfl | rfl <;> first | exact g_1_6 G | exact g_9_6 G | exact g_18_6 G | exact g_26_6 G
theorem gL_7 {h : m_H} {L : Nat} (hL : isL L) (G : GI h) {j : Nat} (hj : j < 16) : (1 : Int) ≤ h (L + 7) j ∧ h (L + 7) j ≤ 9999 := by rcases hL with rfl | rfl | rfl | rfl <;> first | exact g_8 G hj | exact g_16 G hj | exact g_25 G hj | exact g_33 G hj
theorem uL_7 {h : m_H} {L : Nat} (hL : isL L) (G : GI h) {j : Nat} {v : Int} (h1 : (1 : Int) ≤ v) (h2 : v ≤ 9999) : GI (m_up h (L + 7) j v) := by rcases hL with rfl | rfl | rfl | rfl <;> first | exact u_8 G h1 h2 | exact u_16 G h1 h2 | exact u_25 G h1 h2 | exact u_33 G h1 h2
theorem gL7 {h : m_H} {L : Nat} (hL : isL L) (G : GI h) : (0 : Int) ≤ h L 7 ∧ h L 7 ≤ 24 := by rcases hL with rfl | rfl | rfl | rfl <;> first | exact g_1_7 G | exact g_9_7 G | exact g_18_7 G | exact g_26_7 G
theorem uL7 {h : m_H} {L : Nat} (hL : isL L) (G : GI h) {v : Int} (h1 : (0 : Int) ≤ v) (h2 : v ≤ 24) : GI (m_up h L 7 v) := by rcases hL with rfl | rfl | rfl | rfl <;> first | exact u_1_7 G h1 h2 | exact u_9_7 G h1 h2 | exact u_18_7 G h1 h2 | exact u_26_7 G h1 h2
theorem uL8 {h : m_H} {L : Nat} (hL : isL L) (G : GI h) {v : Int} : GI (m_up h L 8 v) := by rcases hL with rfl | rfl | rfl | rfl <;> first | exact u_1_8 G | exact u_9_8 G | exact u_18_8 G | exact u_26_8 G
theorem uL9 {h : m_H} {L : Nat} (hL : isL L) (G : GI h) {v : Int} : GI (m_up h L 9 v) := by rcases hL with rfl | rfl | rfl | rfl <;> first | exact u_1_9 G | exact u_9_9 G | exact u_18_9 G | exact u_26_9 G
def isBb (k : Nat) : Bool := (43 ≤ k && k ≤ 58) || (60 ≤ k && k ≤ 75) || (77 ≤ k && k ≤ 92) || k == 94 || k == 95
def isB (k : Nat) : Prop := isBb k = true
theorem isB_lt {k : Nat} (h : isB k) : k < 96 := by unfold isB isBb at h; simp only [Bool.or_eq_true, Bool.and_eq_true, decide_eq_true_eq, beq_iff_eq] at h; omega
theorem oB_all : ∀ k, k < 96 → isBb k = true → oF[k]? = some (2 + 5, 3) := by decide +kernel
theorem oB {k : Nat} (h : isB k) : oF[k]? = some (2 + 5, 3) := oB_all k (isB_lt h) h
def g_pB : Nat → Int → Prop := fun j x => match j with | 2 => 0 ≤ x ∧ x ≤ 1 | _ => True
theorem bB_all : ∀ k, isB k → g_bt[k]? = some (3, g_pB) := by
  intro k hk
  have h1 := isB_lt hk
  have h2 : (43 ≤ k ∧ k ≤ 58) ∨ (60 ≤ k ∧ k ≤ 75) ∨ (77 ≤ k ∧ k ≤ 92) ∨ k = 94 ∨ k = 95 := by unfold isB isBb at hk; simp only [Bool.or_eq_true, Bool.and_eq_true, decide_eq_true_eq, beq_iff_eq] at hk; omega
  clear hk h1
  have h3 : k = 43 ∨ k = 44 ∨ k = 45 ∨ k = 46 ∨ k = 47 ∨ k = 48 ∨ k = 49 ∨ k = 50 ∨ k = 51 ∨ k = 52 ∨ k = 53 ∨ k = 54 ∨ k = 55 ∨ k = 56 ∨ k = 57 ∨ k = 58 ∨ k = 60 ∨ k = 61 ∨ k = 62 ∨ k = 63 ∨ k = 64 ∨ k = 65 ∨ k = 66 ∨ k = 67 ∨ k = 68 ∨ k = 69 ∨ k = 70 ∨ k = 71 ∨ k = 72 ∨ k = 73 ∨ k = 74 ∨ k = 75 ∨ k = 77 ∨ k = 78 ∨ k = 79 ∨ k = 80 ∨ k = 81 ∨ k = 82 ∨ k = 83 ∨ k = 84 ∨ k = 85 ∨ k = 86 ∨ k = 87 ∨ k = 88 ∨ k = 89 ∨ k = 90 ∨ k = 91 ∨ k = 92 ∨ k = 94 ∨ k = 95 := by omega
  rcases h3 with rfl | rfl | rfl | rfl | rfl | rfl | rfl | rfl | rfl | rfl | rfl | rfl | rfl | rfl | rfl | rfl | rfl | rfl | rfl | rfl | rfl | rfl | rfl | rfl | rfl | rfl | rfl | rfl | rfl | rfl | rfl | rfl | rfl | rfl | rfl | rfl | rfl | rfl | rfl | rfl | rfl | rfl | rfl | rfl | rfl | rfl | rfl | rfl | rfl | rfl <;> rfl
theorem gB {h : m_H} {k : Nat} (hk : isB k) (G : GI h) : (0 : Int) ≤ h k 2 ∧ h k 2 ≤ 1 := G.1 k _ (bB_all k hk) 2 (by decide)
theorem isB_ne {k : Nat} (h : isB k) : k ≠ 111 ∧ k ≠ 112 := by have := isB_lt h; omega
theorem uB0 {h : m_H} {k : Nat} (hk : isB k) (G : GI h) {v : Int} : GI (m_up h k 0 v) := G.up (bB_all k hk) trivial (isB_ne hk)
theorem uB1 {h : m_H} {k : Nat} (hk : isB k) (G : GI h) {v : Int} : GI (m_up h k 1 v) := G.up (bB_all k hk) trivial (isB_ne hk)
theorem uB2 {h : m_H} {k : Nat} (hk : isB k) (G : GI h) {v : Int} (h1 : (0 : Int) ≤ v) (h2 : v ≤ 1) : GI (m_up h k 2 v) := G.up (bB_all k hk) ⟨h1, h2⟩ (isB_ne hk)
