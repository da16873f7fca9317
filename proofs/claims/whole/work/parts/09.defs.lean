/-! THE PURE FUNCTIONS, laid by program out of the bytecode: f_X of a method; b_ of a place where its ways meet, lp_ of a loop -/
def f_X6_count (m : qaM) (v1 : Int32) : Option (Int32) :=
  if v1 = (0 : Int32) then (some ((m 9 0))) else (if v1 = (1 : Int32) then (some ((m 11 0))) else (if v1 = (2 : Int32) then (some ((m 13 0))) else (if v1 = (3 : Int32) then (some ((m 13 1))) else (if v1 = (4 : Int32) then (some ((m 13 2))) else (if v1 = (5 : Int32) then (some ((m 13 3))) else (if v1 = (6 : Int32) then (some ((m 8 3))) else (if v1 = (7 : Int32) then (some ((m 1 0))) else (if v1 = (8 : Int32) then (some ((m 8 4))) else (if v1 = (9 : Int32) then (some ((m 6 0))) else (some ((-2 : Int32))))))))))))
def f_X6_set (m : qaM) (v1 : Int32) (v2 : Int32) : Option (Int32 × qaM) :=
  if v1 < 0 then (some (((-5 : Int32), m))) else (if v1 < (4 : Int32) then (if v2 < 0 then (some (((-7 : Int32), m))) else (qa_ck (qa_in v1 4) (if v2 ≤ (qa_gr v1.toNatClampNeg) then (qa_ck (qa_in v1 4) (qa_lt (m 13 v1.toNatClampNeg) (fun x3 => qa_ck (qa_in v1 4) (qa_lt (qa_st m 13 v1.toNatClampNeg v2) (fun m5 => some ((x3, m5))))))) else (some (((-7 : Int32), m)))))) else (some (((-5 : Int32), m))))
def f_X4_adds (m : qaM) (v1 : Int32) : Option (qaM) :=
  if (m 6 0) < 0 then (some (m)) else (if (160 : Int32) ≤ (m 6 0) then (some (m)) else (qa_ck (qa_in (m 6 0) 160) (qa_lt (qa_st m 7 (m 6 0).toNatClampNeg v1) (fun m2 => qa_lt (qa_st m2 6 0 ((m2 6 0) + (1 : Int32))) (fun m3 => some (m3))))))
def f_X6_isByte (m : qaM) (v0 : Int32) : Option (Int32) :=
  if v0 < 0 then (some ((0 : Int32))) else (if (255 : Int32) < v0 then (some ((0 : Int32))) else (some ((1 : Int32))))
def b_X6_feed_132 (m : qaM) : Option (Int32 × qaM) :=
  some (((m 6 0), m))
def b_X6_feed_118 (m : qaM) (v1 : Int32) (v6 : Int32) : Option (Int32 × qaM) :=
  if v1 ≤ (4 : Int32) then (b_X6_feed_132 m) else (Option.bind (f_X4_adds m v6) (fun q7 => b_X6_feed_132 q7))
def b_X6_feed_104 (m : qaM) (v1 : Int32) (v5 : Int32) (v6 : Int32) : Option (Int32 × qaM) :=
  if v1 ≤ (3 : Int32) then (b_X6_feed_118 m v1 v6) else (Option.bind (f_X4_adds m v5) (fun q8 => b_X6_feed_118 q8 v1 v6))
def b_X6_feed_90 (m : qaM) (v1 : Int32) (v4 : Int32) (v5 : Int32) (v6 : Int32) : Option (Int32 × qaM) :=
  if v1 ≤ (2 : Int32) then (b_X6_feed_104 m v1 v5 v6) else (Option.bind (f_X4_adds m v4) (fun q9 => b_X6_feed_104 q9 v1 v5 v6))
def f_X6_feed (m : qaM) (v1 : Int32) (v2 : Int32) (v3 : Int32) (v4 : Int32) (v5 : Int32) (v6 : Int32) : Option (Int32 × qaM) :=
  if v1 < (1 : Int32) then (some (((-2 : Int32), m))) else (if (5 : Int32) < v1 then (some (((-2 : Int32), m))) else (Option.bind (f_X6_isByte m v2) (fun q1 => if q1 = 0 then (some (((-2 : Int32), m))) else (Option.bind (f_X6_isByte m v3) (fun q2 => if q2 = 0 then (some (((-2 : Int32), m))) else (Option.bind (f_X6_isByte m v4) (fun q3 => if q3 = 0 then (some (((-2 : Int32), m))) else (Option.bind (f_X6_isByte m v5) (fun q4 => if q4 = 0 then (some (((-2 : Int32), m))) else (Option.bind (f_X6_isByte m v6) (fun q5 => if q5 = 0 then (some (((-2 : Int32), m))) else (if v1 ≤ ((160 : Int32) - (m 6 0)) then (Option.bind (f_X4_adds m v2) (fun q6 => if v1 ≤ (1 : Int32) then (b_X6_feed_90 q6 v1 v4 v5 v6) else (Option.bind (f_X4_adds q6 v3) (fun q10 => b_X6_feed_90 q10 v1 v4 v5 v6)))) else (some (((-4 : Int32), m)))))))))))))))
def f_X4_byteAt (m : qaM) (v1 : Int32) : Option (Int32) :=
  if v1 < 0 then (some ((-1 : Int32))) else (if (m 6 0) ≤ v1 then (some ((-1 : Int32))) else (if (160 : Int32) ≤ v1 then (some ((-1 : Int32))) else (qa_ck (qa_in v1 160) (some ((m 7 v1.toNatClampNeg))))))
def f_X4_isDigit (m : qaM) (v0 : Int32) : Option (Int32) :=
  if v0 < (48 : Int32) then (some ((0 : Int32))) else (if (57 : Int32) < v0 then (some ((0 : Int32))) else (some ((1 : Int32))))
def f_X4_isLetter (m : qaM) (v0 : Int32) : Option (Int32) :=
  if v0 < (97 : Int32) then (some ((0 : Int32))) else (if (122 : Int32) < v0 then (some ((0 : Int32))) else (some ((1 : Int32))))
def b_X4_isSign_48 (m : qaM) : Option (Int32) :=
  some ((1 : Int32))
def f_X4_isSign (m : qaM) (v0 : Int32) : Option (Int32) :=
  if v0 = (40 : Int32) then (b_X4_isSign_48 m) else (if v0 = (41 : Int32) then (b_X4_isSign_48 m) else (if v0 = (59 : Int32) then (b_X4_isSign_48 m) else (if v0 = (43 : Int32) then (b_X4_isSign_48 m) else (if v0 = (45 : Int32) then (b_X4_isSign_48 m) else (if v0 = (42 : Int32) then (b_X4_isSign_48 m) else (if v0 = (60 : Int32) then (b_X4_isSign_48 m) else (if v0 = (61 : Int32) then (b_X4_isSign_48 m) else (some ((0 : Int32))))))))))
def b_X4_readsNumber_64 (m : qaM) (v1 : Int32) : Option ((qaM × Int32) ⊕ (Int32 × qaM)) :=
  if (m 6 3) ≤ v1 then (qa_inr (some (((2 : Int32), m)))) else (Option.bind (f_X4_byteAt m v1) (fun q3 => qa_lt (qa_st m 6 5 ((((m 6 5) * (10 : Int32)) + q3) - (48 : Int32))) (fun m4 => qa_lt (v1 + (1 : Int32)) (fun x5 => some (.inl (m4, x5))))))
def lp_X4_readsNumber_64 (m : qaM) (v1 : Int32) : Option (Int32 × qaM) :=
  qa_lp (fun s => b_X4_readsNumber_64 s.1 s.2) qa_F (m, v1)
def b_X4_readsNumber_39 (m : qaM) : Option (Int32 × qaM) :=
  if ((m 6 3) - (m 6 2)) ≤ (4 : Int32) then (qa_lt (qa_st m 6 5 (0 : Int32)) (fun m1 => qa_lt (m1 6 2) (fun x2 => lp_X4_readsNumber_64 m1 x2))) else (some (((1 : Int32), m)))
def b_X4_readsNumber_2 (m : qaM) (v1 : Int32) : Option ((qaM × Int32) ⊕ (Int32 × qaM)) :=
  if (160 : Int32) ≤ v1 then (qa_inr (b_X4_readsNumber_39 m)) else (Option.bind (f_X4_byteAt m (m 6 3)) (fun q6 => Option.bind (f_X4_isDigit m q6) (fun q7 => if q7 = 0 then (qa_inr (b_X4_readsNumber_39 m)) else (qa_lt (qa_st m 6 3 ((m 6 3) + (1 : Int32))) (fun m8 => qa_lt (v1 + (1 : Int32)) (fun x9 => some (.inl (m8, x9))))))))
def lp_X4_readsNumber_2 (m : qaM) (v1 : Int32) : Option (Int32 × qaM) :=
  qa_lp (fun s => b_X4_readsNumber_2 s.1 s.2) qa_F (m, v1)
def f_X4_readsNumber (m : qaM) : Option (Int32 × qaM) :=
  lp_X4_readsNumber_2 m (0 : Int32)
def b_X4_stands_20 (k1 : Nat) (m : qaM) (v2 : Int32) : Option ((Int32) ⊕ (Int32)) :=
  qa_ck (decide (k1 < 12)) (if (nI (qa_tl.getD k1 0)) ≤ v2 then (qa_inr (some ((1 : Int32)))) else (qa_ck (decide (k1 < 12)) (qa_ck (qa_in v2 (qa_tl.getD k1 0)) (Option.bind (f_X4_byteAt m ((m 6 2) + v2)) (fun q5 => if (qa_ch k1 v2.toNatClampNeg) = q5 then (qa_lt (v2 + (1 : Int32)) (fun x6 => some (.inl x6))) else (qa_inr (some ((0 : Int32)))))))))
def lp_X4_stands_20 (k1 : Nat) (m : qaM) (v2 : Int32) : Option (Int32) :=
  qa_lp (fun s => b_X4_stands_20 k1 m s) qa_F v2
def f_X4_stands (k1 : Nat) (m : qaM) : Option (Int32) :=
  qa_ck (decide (k1 < 12)) (if (nI (qa_tl.getD k1 0)) = ((m 6 3) - (m 6 2)) then (lp_X4_stands_20 k1 m (0 : Int32)) else (some ((0 : Int32))))
def f_X4_wordOf (m : qaM) (v0 : Int32) : Option (Nat) :=
  if v0 = (0 : Int32) then (some (0)) else (if v0 = (1 : Int32) then (some (1)) else (if v0 = (2 : Int32) then (some (2)) else (if v0 = (3 : Int32) then (some (3)) else (if v0 = (4 : Int32) then (some (4)) else (if v0 = (5 : Int32) then (some (5)) else (if v0 = (6 : Int32) then (some (6)) else (if v0 = (7 : Int32) then (some (7)) else (if v0 = (8 : Int32) then (some (8)) else (if v0 = (9 : Int32) then (some (9)) else (if v0 = (10 : Int32) then (some (10)) else (some (11))))))))))))
def b_X4_readsWord_58 (m : qaM) (v1 : Int32) : Option (Int32 × qaM) :=
  some ((((300 : Int32) + v1), m))
def b_X4_readsWord_41 (m : qaM) (v1 : Int32) : Option ((Int32) ⊕ (Int32 × qaM)) :=
  if (12 : Int32) ≤ v1 then (qa_inr (some (((1 : Int32), m)))) else (Option.bind (f_X4_wordOf m v1) (fun q1 => Option.bind (f_X4_stands q1 m) (fun q2 => if q2 = 0 then (qa_lt (v1 + (1 : Int32)) (fun x3 => some (.inl x3))) else (qa_inr (b_X4_readsWord_58 m v1)))))
def lp_X4_readsWord_41 (m : qaM) (v1 : Int32) : Option (Int32 × qaM) :=
  qa_lp (fun s => b_X4_readsWord_41 m s) qa_F v1
def b_X4_readsWord_39 (m : qaM) : Option (Int32 × qaM) :=
  lp_X4_readsWord_41 m (0 : Int32)
def b_X4_readsWord_2 (m : qaM) (v1 : Int32) : Option ((qaM × Int32) ⊕ (Int32 × qaM)) :=
  if (160 : Int32) ≤ v1 then (qa_inr (b_X4_readsWord_39 m)) else (Option.bind (f_X4_byteAt m (m 6 3)) (fun q4 => Option.bind (f_X4_isLetter m q4) (fun q5 => if q5 = 0 then (qa_inr (b_X4_readsWord_39 m)) else (qa_lt (qa_st m 6 3 ((m 6 3) + (1 : Int32))) (fun m6 => qa_lt (v1 + (1 : Int32)) (fun x7 => some (.inl (m6, x7))))))))
def lp_X4_readsWord_2 (m : qaM) (v1 : Int32) : Option (Int32 × qaM) :=
  qa_lp (fun s => b_X4_readsWord_2 s.1 s.2) qa_F (m, v1)
def f_X4_readsWord (m : qaM) : Option (Int32 × qaM) :=
  lp_X4_readsWord_2 m (0 : Int32)
def b_X4_goesOn_147 (m : qaM) (s1 : Int32) : Option (qaM) :=
  qa_lt (qa_st m 6 4 s1) (fun m7 => some (m7))
def b_X4_goesOn_59 (m : qaM) : Option (qaM) :=
  Option.bind (f_X4_byteAt m (m 6 2)) (fun q2 => qa_lt (qa_st m 6 3 ((m 6 2) + (1 : Int32))) (fun m3 => if 0 ≤ q2 then (Option.bind (f_X4_isLetter m3 q2) (fun q4 => if q4 = 0 then (Option.bind (f_X4_isDigit m3 q2) (fun q5 => if q5 = 0 then (Option.bind (f_X4_isSign m3 q2) (fun q6 => if q6 = 0 then (b_X4_goesOn_147 m3 (1 : Int32)) else (b_X4_goesOn_147 m3 q2))) else (Option.bind (f_X4_readsNumber m3) (fun q8 => qa_lt (qa_st q8.2 6 4 q8.1) (fun m9 => some (m9)))))) else (Option.bind (f_X4_readsWord m3) (fun q10 => qa_lt (qa_st q10.2 6 4 q10.1) (fun m11 => some (m11)))))) else (qa_lt (qa_st m3 6 4 (0 : Int32)) (fun m12 => qa_lt (qa_st m12 6 3 (m12 6 2)) (fun m13 => some (m13))))))
def b_X4_goesOn_43 (m : qaM) (v1 : Int32) : Option ((qaM × Int32) ⊕ (qaM)) :=
  qa_lt (qa_st m 6 2 ((m 6 2) + (1 : Int32))) (fun m15 => qa_lt (v1 + (1 : Int32)) (fun x16 => some (.inl (m15, x16))))
def b_X4_goesOn_10 (m : qaM) (v1 : Int32) : Option ((qaM × Int32) ⊕ (qaM)) :=
  if (160 : Int32) ≤ v1 then (qa_inr (b_X4_goesOn_59 m)) else (Option.bind (f_X4_byteAt m (m 6 2)) (fun q14 => if q14 = (32 : Int32) then (b_X4_goesOn_43 m v1) else (Option.bind (f_X4_byteAt m (m 6 2)) (fun q17 => if q17 = (10 : Int32) then (b_X4_goesOn_43 m v1) else (qa_inr (b_X4_goesOn_59 m))))))
def lp_X4_goesOn_10 (m : qaM) (v1 : Int32) : Option (qaM) :=
  qa_lp (fun s => b_X4_goesOn_10 s.1 s.2) qa_F (m, v1)
def f_X4_goesOn (m : qaM) : Option (qaM) :=
  qa_lt (qa_st m 6 2 (m 6 3)) (fun m1 => lp_X4_goesOn_10 m1 (0 : Int32))
def f_X5_adds (m : qaM) (v1 : Int32) : Option (qaM) :=
  if (m 1 0) < 0 then (some (m)) else (if (6 : Int32) ≤ (m 1 0) then (some (m)) else (if (m 1 5) < 0 then (some (m)) else (if (160 : Int32) ≤ (m 1 5) then (some (m)) else (qa_ck (qa_in (((m 1 0) * (160 : Int32)) + (m 1 5)) 960) (qa_lt (qa_st m 2 (((m 1 0) * (160 : Int32)) + (m 1 5)).toNatClampNeg v1) (fun m2 => qa_lt (qa_st m2 1 5 ((m2 1 5) + (1 : Int32))) (fun m3 => some (m3))))))))
def b_X4_readsOne_49 (rec : Nat → qaM → Int32 → Option (Int32 × qaM)) (m : qaM) (s1 : Int32) : Option (Int32 × qaM) :=
  Option.bind (f_X5_adds m s1) (fun q1 => Option.bind (f_X4_goesOn q1) (fun q2 => some (((1 : Int32), q2))))
def b_X4_readsOne_28 (rec : Nat → qaM → Int32 → Option (Int32 × qaM)) (m : qaM) : Option (Int32 × qaM) :=
  if (m 6 4) = (2 : Int32) then (b_X4_readsOne_49 rec m (m 6 5)) else (b_X4_readsOne_49 rec m (-(m 6 4)))
def b_X4_readsOne_76 (rec : Nat → qaM → Int32 → Option (Int32 × qaM)) (m : qaM) (v2 : Int32) : Option (Int32 × qaM) :=
  if v2 < (5 : Int32) then (if (m 6 4) = (45 : Int32) then (Option.bind (f_X4_goesOn m) (fun q6 => Option.bind (rec 5 q6 (v2 + (1 : Int32))) (fun q7 => Option.bind (f_X5_adds q7.2 (-200 : Int32)) (fun q8 => qa_ck (qa_bl q7.1) (some ((q7.1, q8))))))) else (Option.bind (f_X4_goesOn m) (fun q3 => Option.bind (rec 0 q3 (v2 + (1 : Int32))) (fun q4 => if q4.1 = 0 then (some (((0 : Int32), q4.2))) else (if (q4.2 6 4) = (41 : Int32) then (Option.bind (f_X4_goesOn q4.2) (fun q5 => some (((1 : Int32), q5)))) else (some (((0 : Int32), q4.2)))))))) else (some (((0 : Int32), m)))
def b_X4_readsOne_58 (rec : Nat → qaM → Int32 → Option (Int32 × qaM)) (m : qaM) (v2 : Int32) : Option (Int32 × qaM) :=
  if (m 6 4) = (45 : Int32) then (b_X4_readsOne_76 rec m v2) else (if (m 6 4) = (40 : Int32) then (b_X4_readsOne_76 rec m v2) else (some (((0 : Int32), m))))
def f_X4_readsOne (rec : Nat → qaM → Int32 → Option (Int32 × qaM)) (m : qaM) (v2 : Int32) : Option (Int32 × qaM) :=
  if (m 6 4) = (2 : Int32) then (b_X4_readsOne_28 rec m) else (if (m 6 4) < (306 : Int32) then (b_X4_readsOne_58 rec m v2) else (if (312 : Int32) ≤ (m 6 4) then (b_X4_readsOne_58 rec m v2) else (b_X4_readsOne_28 rec m)))
def b_X4_readsTerm_10 (rec : Nat → qaM → Int32 → Option (Int32 × qaM)) (m : qaM) (v2 : Int32) (v3 : Int32) (v4 : Int32) : Option ((qaM × Int32 × Int32) ⊕ (Int32 × qaM)) :=
  if (160 : Int32) ≤ v4 then (qa_ck (qa_bl v3) (qa_inr (some ((v3, m))))) else (if v3 = 0 then (qa_ck (qa_bl v3) (qa_inr (some ((v3, m))))) else (if (m 6 4) = (42 : Int32) then (Option.bind (f_X4_goesOn m) (fun q5 => Option.bind (rec 5 q5 v2) (fun q6 => Option.bind (f_X5_adds q6.2 (-42 : Int32)) (fun q7 => qa_lt (v4 + (1 : Int32)) (fun x8 => some (.inl (q7, q6.1, x8))))))) else (qa_ck (qa_bl v3) (qa_inr (some ((v3, m)))))))
def lp_X4_readsTerm_10 (rec : Nat → qaM → Int32 → Option (Int32 × qaM)) (m : qaM) (v2 : Int32) (v3 : Int32) (v4 : Int32) : Option (Int32 × qaM) :=
  qa_lp (fun s => b_X4_readsTerm_10 rec s.1 v2 s.2.1 s.2.2) qa_F (m, v3, v4)
def f_X4_readsTerm (rec : Nat → qaM → Int32 → Option (Int32 × qaM)) (m : qaM) (v2 : Int32) : Option (Int32 × qaM) :=
  Option.bind (rec 5 m v2) (fun q1 => lp_X4_readsTerm_10 rec q1.2 v2 q1.1 (0 : Int32))
def b_X4_readsSum_40 (rec : Nat → qaM → Int32 → Option (Int32 × qaM)) (m : qaM) (v2 : Int32) (v4 : Int32) : Option ((qaM × Int32 × Int32) ⊕ (Int32 × qaM)) :=
  qa_lt (m 6 4) (fun x4 => Option.bind (f_X4_goesOn m) (fun q5 => Option.bind (rec 4 q5 v2) (fun q6 => Option.bind (f_X5_adds q6.2 (-x4)) (fun q7 => qa_lt (v4 + (1 : Int32)) (fun x8 => some (.inl (q7, q6.1, x8)))))))
def b_X4_readsSum_10 (rec : Nat → qaM → Int32 → Option (Int32 × qaM)) (m : qaM) (v2 : Int32) (v3 : Int32) (v4 : Int32) : Option ((qaM × Int32 × Int32) ⊕ (Int32 × qaM)) :=
  if (160 : Int32) ≤ v4 then (qa_ck (qa_bl v3) (qa_inr (some ((v3, m))))) else (if v3 = 0 then (qa_ck (qa_bl v3) (qa_inr (some ((v3, m))))) else (if (m 6 4) = (43 : Int32) then (b_X4_readsSum_40 rec m v2 v4) else (if (m 6 4) = (45 : Int32) then (b_X4_readsSum_40 rec m v2 v4) else (qa_ck (qa_bl v3) (qa_inr (some ((v3, m))))))))
def lp_X4_readsSum_10 (rec : Nat → qaM → Int32 → Option (Int32 × qaM)) (m : qaM) (v2 : Int32) (v3 : Int32) (v4 : Int32) : Option (Int32 × qaM) :=
  qa_lp (fun s => b_X4_readsSum_10 rec s.1 v2 s.2.1 s.2.2) qa_F (m, v3, v4)
def f_X4_readsSum (rec : Nat → qaM → Int32 → Option (Int32 × qaM)) (m : qaM) (v2 : Int32) : Option (Int32 × qaM) :=
  Option.bind (rec 4 m v2) (fun q1 => lp_X4_readsSum_10 rec q1.2 v2 q1.1 (0 : Int32))
def b_X4_readsNot_68 (rec : Nat → qaM → Int32 → Option (Int32 × qaM)) (m : qaM) (v2 : Int32) : Option (Int32 × qaM) :=
  qa_lt (m 6 4) (fun x3 => Option.bind (f_X4_goesOn m) (fun q4 => Option.bind (rec 3 q4 v2) (fun q5 => Option.bind (f_X5_adds q5.2 (-x3)) (fun q6 => qa_ck (qa_bl q5.1) (some ((q5.1, q6)))))))
def f_X4_readsNot (rec : Nat → qaM → Int32 → Option (Int32 × qaM)) (m : qaM) (v2 : Int32) : Option (Int32 × qaM) :=
  if (m 6 4) = (305 : Int32) then (if v2 < (5 : Int32) then (Option.bind (f_X4_goesOn m) (fun q9 => Option.bind (rec 2 q9 (v2 + (1 : Int32))) (fun q10 => Option.bind (f_X5_adds q10.2 (-305 : Int32)) (fun q11 => qa_ck (qa_bl q10.1) (some ((q10.1, q11))))))) else (some (((0 : Int32), m)))) else (Option.bind (rec 3 m v2) (fun q1 => if q1.1 = 0 then (qa_ck (qa_bl q1.1) (some ((q1.1, q1.2)))) else (if (q1.2 6 4) = (60 : Int32) then (b_X4_readsNot_68 rec q1.2 v2) else (if (q1.2 6 4) = (61 : Int32) then (b_X4_readsNot_68 rec q1.2 v2) else (qa_ck (qa_bl q1.1) (some ((q1.1, q1.2))))))))
def b_X4_readsBoth_10 (rec : Nat → qaM → Int32 → Option (Int32 × qaM)) (m : qaM) (v2 : Int32) (v3 : Int32) (v4 : Int32) : Option ((qaM × Int32 × Int32) ⊕ (Int32 × qaM)) :=
  if (160 : Int32) ≤ v4 then (qa_ck (qa_bl v3) (qa_inr (some ((v3, m))))) else (if v3 = 0 then (qa_ck (qa_bl v3) (qa_inr (some ((v3, m))))) else (if (m 6 4) = (304 : Int32) then (Option.bind (f_X4_goesOn m) (fun q5 => Option.bind (rec 2 q5 v2) (fun q6 => Option.bind (f_X5_adds q6.2 (-304 : Int32)) (fun q7 => qa_lt (v4 + (1 : Int32)) (fun x8 => some (.inl (q7, q6.1, x8))))))) else (qa_ck (qa_bl v3) (qa_inr (some ((v3, m)))))))
def lp_X4_readsBoth_10 (rec : Nat → qaM → Int32 → Option (Int32 × qaM)) (m : qaM) (v2 : Int32) (v3 : Int32) (v4 : Int32) : Option (Int32 × qaM) :=
  qa_lp (fun s => b_X4_readsBoth_10 rec s.1 v2 s.2.1 s.2.2) qa_F (m, v3, v4)
def f_X4_readsBoth (rec : Nat → qaM → Int32 → Option (Int32 × qaM)) (m : qaM) (v2 : Int32) : Option (Int32 × qaM) :=
  Option.bind (rec 2 m v2) (fun q1 => lp_X4_readsBoth_10 rec q1.2 v2 q1.1 (0 : Int32))
def b_X4_readsEither_10 (rec : Nat → qaM → Int32 → Option (Int32 × qaM)) (m : qaM) (v2 : Int32) (v3 : Int32) (v4 : Int32) : Option ((qaM × Int32 × Int32) ⊕ (Int32 × qaM)) :=
  if (160 : Int32) ≤ v4 then (qa_ck (qa_bl v3) (qa_inr (some ((v3, m))))) else (if v3 = 0 then (qa_ck (qa_bl v3) (qa_inr (some ((v3, m))))) else (if (m 6 4) = (303 : Int32) then (Option.bind (f_X4_goesOn m) (fun q5 => Option.bind (rec 1 q5 v2) (fun q6 => Option.bind (f_X5_adds q6.2 (-303 : Int32)) (fun q7 => qa_lt (v4 + (1 : Int32)) (fun x8 => some (.inl (q7, q6.1, x8))))))) else (qa_ck (qa_bl v3) (qa_inr (some ((v3, m)))))))
def lp_X4_readsEither_10 (rec : Nat → qaM → Int32 → Option (Int32 × qaM)) (m : qaM) (v2 : Int32) (v3 : Int32) (v4 : Int32) : Option (Int32 × qaM) :=
  qa_lp (fun s => b_X4_readsEither_10 rec s.1 v2 s.2.1 s.2.2) qa_F (m, v3, v4)
def f_X4_readsEither (rec : Nat → qaM → Int32 → Option (Int32 × qaM)) (m : qaM) (v2 : Int32) : Option (Int32 × qaM) :=
  Option.bind (rec 1 m v2) (fun q1 => lp_X4_readsEither_10 rec q1.2 v2 q1.1 (0 : Int32))
def f_RD : Nat → Nat → qaM → Int32 → Option (Int32 × qaM)
  | 0, _, _, _ => none
  | d + 1, k, m, o => match k with
    | 0 => f_X4_readsEither (f_RD d) m o
    | 1 => f_X4_readsBoth (f_RD d) m o
    | 2 => f_X4_readsNot (f_RD d) m o
    | 3 => f_X4_readsSum (f_RD d) m o
    | 4 => f_X4_readsTerm (f_RD d) m o
    | _ => f_X4_readsOne (f_RD d) m o
def f_X5_endsPart (m : qaM) (v1 : Int32) : Option (qaM) :=
  if (m 1 0) < 0 then (some (m)) else (if (6 : Int32) ≤ (m 1 0) then (some (m)) else (if v1 < 0 then (some (m)) else (if (3 : Int32) ≤ v1 then (some (m)) else (qa_ck (qa_in (((m 1 0) * (3 : Int32)) + v1) 18) (qa_lt (qa_st m 3 (((m 1 0) * (3 : Int32)) + v1).toNatClampNeg (m 1 5)) (fun m2 => some (m2)))))))
def b_X4_readsInto_75 (m : qaM) : Option (Int32 × qaM) :=
  if (m 6 4) = 0 then (some (((-1 : Int32), m))) else (some (((m 6 2), m)))
def b_X4_readsInto_11 (m : qaM) (v2 : Int32) : Option ((qaM × Int32) ⊕ (Int32 × qaM)) :=
  if (3 : Int32) ≤ v2 then (qa_inr (b_X4_readsInto_75 m)) else (if (m 6 4) = ((300 : Int32) + v2) then (Option.bind (f_X4_goesOn m) (fun q3 => Option.bind (f_RD 60 0 q3 (0 : Int32)) (fun q4 => if q4.1 = 0 then (qa_inr (some (((q4.2 6 2), q4.2)))) else (if (q4.2 6 4) = (59 : Int32) then (Option.bind (f_X4_goesOn q4.2) (fun q5 => Option.bind (f_X5_endsPart q5 v2) (fun q6 => qa_lt (v2 + (1 : Int32)) (fun x7 => some (.inl (q6, x7)))))) else (qa_inr (some (((q4.2 6 2), q4.2)))))))) else (qa_inr (some (((m 6 2), m)))))
def lp_X4_readsInto_11 (m : qaM) (v2 : Int32) : Option (Int32 × qaM) :=
  qa_lp (fun s => b_X4_readsInto_11 s.1 s.2) qa_F (m, v2)
def f_X4_readsInto (m : qaM) : Option (Int32 × qaM) :=
  qa_lt (qa_st m 6 3 (0 : Int32)) (fun m1 => Option.bind (f_X4_goesOn m1) (fun q2 => lp_X4_readsInto_11 q2 (0 : Int32)))
def f_X5_beginsText (m : qaM) : Option (qaM) :=
  qa_lt (qa_st m 1 5 (0 : Int32)) (fun m1 => some (m1))
def f_X5_keepsText (m : qaM) : Option (Int32 × qaM) :=
  qa_lt (qa_st m 1 0 ((m 1 0) + (1 : Int32))) (fun m1 => some ((((m1 1 0) - (1 : Int32)), m1)))
def f_X6_text (m : qaM) : Option (Int32 × qaM) :=
  if (m 1 0) < (6 : Int32) then (Option.bind (f_X5_beginsText m) (fun q1 => Option.bind (f_X4_readsInto q1) (fun q2 => qa_lt (qa_st q2.2 6 0 (0 : Int32)) (fun m3 => if q2.1 = (-1 : Int32) then (Option.bind (f_X5_keepsText m3) (fun q4 => some ((q4.1, q4.2)))) else (some ((((-100 : Int32) - q2.1), m3))))))) else (some (((-4 : Int32), m)))
def f_X6_force (m : qaM) (v1 : Int32) : Option (Int32 × qaM) :=
  if v1 < 0 then (some (((-2 : Int32), m))) else (if v1 < (m 1 0) then (qa_lt (m 8 4) (fun x1 => qa_lt (qa_st m 8 4 v1) (fun m2 => some ((x1, m2))))) else (some (((-2 : Int32), m))))
def b_X5_joins_116 (m : qaM) : Option (Int32) :=
  some ((1 : Int32))
def f_X5_joins (m : qaM) (v0 : Int32) (v1 : Int32) (v2 : Int32) : Option (Int32) :=
  if v0 = (42 : Int32) then (some ((v1 * v2))) else (if v0 = (43 : Int32) then (some ((v1 + v2))) else (if v0 = (45 : Int32) then (some ((v1 - v2))) else (if v0 = (60 : Int32) then (if v2 ≤ v1 then (some ((0 : Int32))) else (some ((1 : Int32)))) else (if v0 = (61 : Int32) then (if v1 = v2 then (some ((1 : Int32))) else (some ((0 : Int32)))) else (if v0 = (304 : Int32) then (if v1 = 0 then (some ((0 : Int32))) else (if v2 = 0 then (some ((0 : Int32))) else (some ((1 : Int32))))) else (if v1 = 0 then (if v2 = 0 then (some ((0 : Int32))) else (b_X5_joins_116 m)) else (b_X5_joins_116 m)))))))
def b_X5_says_265 (m : qaM) : Option (Int32 × qaM) :=
  some (((qa_max (0 : Int32) (qa_min (99 : Int32) (m 5 0))), m))
def b_X5_says_259 (m : qaM) (v1 : Int32) (v3 : Int32) (v5 : Int32) (v6 : Int32) : Option ((qaM × Int32 × Int32) ⊕ (Int32 × qaM)) :=
  qa_lt (v6 + (1 : Int32)) (fun x7 => some (.inl (m, v3, x7)))
def b_X5_says_148 (m : qaM) (v1 : Int32) (v3 : Int32) (v5 : Int32) (v6 : Int32) (s1 : Int32) (s2 : Int32) : Option ((qaM × Int32 × Int32) ⊕ (Int32 × qaM)) :=
  qa_ck (qa_in s1 160) (qa_lt (qa_st m 5 s1.toNatClampNeg s2) (fun m10 => qa_lt (v3 + (1 : Int32)) (fun x11 => b_X5_says_259 m10 v1 x11 v5 v6)))
def b_X5_says_119 (m : qaM) (v1 : Int32) (v3 : Int32) (v5 : Int32) (v6 : Int32) (v7 : Int32) (v8 : Int32) : Option ((qaM × Int32 × Int32) ⊕ (Int32 × qaM)) :=
  if (160 : Int32) ≤ v3 then (b_X5_says_259 m v1 v3 v5 v6) else (if v7 < 0 then (qa_ck (qa_in v8 6) (b_X5_says_148 m v1 v3 v5 v6 v3 (m 4 v8.toNatClampNeg))) else (b_X5_says_148 m v1 v3 v5 v6 v3 v7))
def b_X5_says_217 (m : qaM) (v1 : Int32) (v3 : Int32) (v5 : Int32) (v6 : Int32) (s1 : Int32) (s2 : Int32) : Option ((qaM × Int32 × Int32) ⊕ (Int32 × qaM)) :=
  qa_ck (qa_in s1 160) (qa_lt (qa_st m 5 s1.toNatClampNeg s2) (fun m15 => b_X5_says_259 m15 v1 v3 v5 v6))
def b_X5_says_171 (m : qaM) (v1 : Int32) (v3 : Int32) (v5 : Int32) (v6 : Int32) (v7 : Int32) : Option ((qaM × Int32 × Int32) ⊕ (Int32 × qaM)) :=
  if v3 < (1 : Int32) then (b_X5_says_259 m v1 v3 v5 v6) else (qa_ck (qa_in (v3 - (1 : Int32)) 160) (qa_lt (m 5 (v3 - (1 : Int32)).toNatClampNeg) (fun x13 => if v7 = (-200 : Int32) then (b_X5_says_217 m v1 v3 v5 v6 (v3 - (1 : Int32)) (-x13)) else (if x13 = 0 then (b_X5_says_217 m v1 v3 v5 v6 (v3 - (1 : Int32)) (1 : Int32)) else (b_X5_says_217 m v1 v3 v5 v6 (v3 - (1 : Int32)) (0 : Int32))))))
def b_X5_says_155 (m : qaM) (v1 : Int32) (v3 : Int32) (v5 : Int32) (v6 : Int32) (v7 : Int32) : Option ((qaM × Int32 × Int32) ⊕ (Int32 × qaM)) :=
  if v7 = (-200 : Int32) then (b_X5_says_171 m v1 v3 v5 v6 v7) else (if v7 = (-305 : Int32) then (b_X5_says_171 m v1 v3 v5 v6 v7) else (if v3 < (2 : Int32) then (b_X5_says_259 m v1 v3 v5 v6) else (qa_ck (qa_in (v3 - (2 : Int32)) 160) (qa_ck (qa_in (v3 - (1 : Int32)) 160) (Option.bind (f_X5_joins m (-v7) (m 5 (v3 - (2 : Int32)).toNatClampNeg) (m 5 (v3 - (1 : Int32)).toNatClampNeg)) (fun q18 => qa_ck (qa_in (v3 - (2 : Int32)) 160) (qa_lt (qa_st m 5 (v3 - (2 : Int32)).toNatClampNeg q18) (fun m20 => qa_lt (v3 + (-1 : Int32)) (fun x21 => b_X5_says_259 m20 v1 x21 v5 v6)))))))))
def b_X5_says_71 (m : qaM) (v1 : Int32) (v3 : Int32) (v5 : Int32) (v6 : Int32) : Option ((qaM × Int32 × Int32) ⊕ (Int32 × qaM)) :=
  if v5 ≤ v6 then (qa_inr (b_X5_says_265 m)) else (qa_ck (qa_in ((v1 * (160 : Int32)) + v6) 960) (qa_lt (m 2 ((v1 * (160 : Int32)) + v6).toNatClampNeg) (fun x5 => qa_lt ((-x5) - (306 : Int32)) (fun x6 => if 0 ≤ x5 then (b_X5_says_119 m v1 v3 v5 v6 x5 x6) else (if x6 < 0 then (b_X5_says_155 m v1 v3 v5 v6 x5) else (if (6 : Int32) ≤ x6 then (b_X5_says_155 m v1 v3 v5 v6 x5) else (b_X5_says_119 m v1 v3 v5 v6 x5 x6)))))))
def lp_X5_says_71 (m : qaM) (v1 : Int32) (v3 : Int32) (v5 : Int32) (v6 : Int32) : Option (Int32 × qaM) :=
  qa_lp (fun s => b_X5_says_71 s.1 v1 s.2.1 v5 s.2.2) qa_F (m, v3, v6)
def b_X5_says_47 (m : qaM) (v1 : Int32) (v2 : Int32) (v3 : Int32) (s0 : Int32) : Option (Int32 × qaM) :=
  qa_ck (qa_in ((v1 * (3 : Int32)) + v2) 18) (qa_lt (qa_min (m 3 ((v1 * (3 : Int32)) + v2).toNatClampNeg) (160 : Int32)) (fun x3 => lp_X5_says_71 m v1 v3 x3 s0))
def f_X5_says (m : qaM) (v1 : Int32) (v2 : Int32) : Option (Int32 × qaM) :=
  if v1 < 0 then (some (((0 : Int32), m))) else (if (6 : Int32) ≤ v1 then (some (((0 : Int32), m))) else (if v2 < 0 then (some (((0 : Int32), m))) else (if v2 < (3 : Int32) then (if v2 = 0 then (b_X5_says_47 m v1 v2 (0 : Int32) (0 : Int32)) else (qa_ck (qa_in (((v1 * (3 : Int32)) + v2) - (1 : Int32)) 18) (b_X5_says_47 m v1 v2 (0 : Int32) (qa_max (m 3 (((v1 * (3 : Int32)) + v2) - (1 : Int32)).toNatClampNeg) (0 : Int32))))) else (some (((0 : Int32), m))))))
def f_X5_tellsLinen (m : qaM) (v1 : Int32) (v2 : Int32) (v3 : Int32) (v4 : Int32) : Option (qaM) :=
  qa_lt (qa_st m 4 0 v1) (fun m1 => qa_lt (qa_st m1 4 1 v2) (fun m2 => qa_lt (qa_st m2 4 2 v3) (fun m3 => qa_lt (qa_st m3 4 3 v4) (fun m4 => some (m4)))))
def f_X5_tellsWeek (m : qaM) (v1 : Int32) (v2 : Int32) : Option (qaM) :=
  qa_lt (qa_st m 4 4 v1) (fun m1 => qa_lt (qa_st m1 4 5 v2) (fun m2 => some (m2)))
def f_X6_asks (m : qaM) (v1 : Int32) (v2 : Int32) (v3 : Int32) (v4 : Int32) : Option (Int32 × qaM) :=
  if v1 < 0 then (some (((-2 : Int32), m))) else (if (3 : Int32) ≤ v1 then (some (((-2 : Int32), m))) else (if v2 < 0 then (some (((-2 : Int32), m))) else (if (999 : Int32) < v2 then (some (((-2 : Int32), m))) else (if v3 < 0 then (some (((-2 : Int32), m))) else (if v3 ≤ (999 : Int32) then (if v4 < 0 then (some (((-2 : Int32), m))) else (if (10 : Int32) ≤ (v4 / (10 : Int32)) then (some (((-2 : Int32), m))) else (if (v4 - v4 / (10 : Int32) * (10 : Int32)) ≤ (1 : Int32) then (Option.bind (f_X5_tellsLinen m v2 v3 (v4 / (10 : Int32)) (v4 - v4 / (10 : Int32) * (10 : Int32))) (fun q1 => Option.bind (f_X5_tellsWeek q1 (q1 8 3) (q1 13 0)) (fun q2 => Option.bind (f_X5_says q2 (q2 8 4) v1) (fun q3 => some ((q3.1, q3.2)))))) else (some (((-2 : Int32), m)))))) else (some (((-2 : Int32), m))))))))
def f_X2_at (i0 : Nat) (m : qaM) (v1 : Int32) : Option (Int32) :=
  if v1 < 0 then (some ((-1 : Int32))) else (if (m i0 0) ≤ v1 then (some ((-1 : Int32))) else (if (8 : Int32) ≤ v1 then (some ((-1 : Int32))) else (qa_ck (qa_in v1 8) (some ((m (i0 + 1) v1.toNatClampNeg))))))
def f_X2_insertsAt (i0 : Nat) (m : qaM) (v1 : Int32) (v2 : Int32) : Option (qaM) :=
  if v1 < 0 then (some (m)) else (if (m i0 0) < v1 then (some (m)) else (if (m i0 0) < (8 : Int32) then (qa_ck (qa_cpok v1 (v1 + (1 : Int32)) ((m i0 0) - v1) 8 8) (qa_lt (qa_pt m (i0 + 1) (va_cpy (m (i0 + 1)) (m (i0 + 1)) v1.toNatClampNeg (v1 + (1 : Int32)).toNatClampNeg ((m i0 0) - v1).toNatClampNeg)) (fun m1 => qa_ck (qa_in v1 8) (qa_lt (qa_st m1 (i0 + 1) v1.toNatClampNeg v2) (fun m4 => qa_lt (qa_st m4 i0 0 ((m4 i0 0) + (1 : Int32))) (fun m5 => some (m5))))))) else (some (m))))
def f_X2_isPlace (i0 : Nat) (m : qaM) (v1 : Int32) : Option (Int32) :=
  if v1 < 0 then (some ((0 : Int32))) else (if (m i0 0) ≤ v1 then (some ((0 : Int32))) else (if (8 : Int32) ≤ v1 then (some ((0 : Int32))) else (some ((1 : Int32)))))
def b_X0_laysDown_72 (i0 : Nat) (m : qaM) (v1 : Int32) (v2 : Int32) : Option (qaM) :=
  Option.bind (f_X2_insertsAt (i0 + 3) m v2 v1) (fun q1 => some (q1))
def b_X0_laysDown_34 (i0 : Nat) (m : qaM) (v1 : Int32) (v2 : Int32) (v3 : Int32) : Option ((Int32 × Int32) ⊕ (qaM)) :=
  if (8 : Int32) ≤ v3 then (qa_inr (b_X0_laysDown_72 i0 m v1 v2)) else (Option.bind (f_X2_isPlace (i0 + 3) m v2) (fun q2 => if q2 = 0 then (qa_inr (b_X0_laysDown_72 i0 m v1 v2)) else (Option.bind (f_X2_at (i0 + 3) m v2) (fun q3 => if v1 ≤ q3 then (qa_inr (b_X0_laysDown_72 i0 m v1 v2)) else (qa_lt (v2 + (1 : Int32)) (fun x4 => qa_lt (v3 + (1 : Int32)) (fun x5 => some (.inl (x4, x5)))))))))
def lp_X0_laysDown_34 (i0 : Nat) (m : qaM) (v1 : Int32) (v2 : Int32) (v3 : Int32) : Option (qaM) :=
  qa_lp (fun s => b_X0_laysDown_34 i0 m v1 s.1 s.2) qa_F (v2, v3)
def f_X0_laysDown (i0 : Nat) (m : qaM) (v1 : Int32) : Option (qaM) :=
  if (m (i0 + 5) 3) = (1 : Int32) then (qa_lt (m (i0 + 3) 0) (fun x6 => b_X0_laysDown_72 i0 m v1 x6)) else (if (m (i0 + 5) 3) = 0 then (b_X0_laysDown_72 i0 m v1 (0 : Int32)) else (lp_X0_laysDown_34 i0 m v1 (0 : Int32) (0 : Int32)))
def f_X1_notes (i0 : Nat) (m : qaM) (v1 : Int32) (v2 : Int32) (v3 : Int32) : Option (qaM) :=
  if v1 < 0 then (some (m)) else (if (8 : Int32) ≤ v1 then (some (m)) else (if v2 < 0 then (some (m)) else (if (7 : Int32) ≤ v2 then (some (m)) else (qa_ck (qa_in ((v1 * (7 : Int32)) + v2) 56) (qa_lt (qa_st m (i0 + 1) ((v1 * (7 : Int32)) + v2).toNatClampNeg v3) (fun m2 => some (m2)))))))
def f_X1_adds (i0 : Nat) (m : qaM) (v1 : Int32) (v2 : Int32) (v3 : Int32) : Option (Int32 × qaM) :=
  qa_lt (m i0 0) (fun x1 => Option.bind (f_X1_notes i0 m x1 (0 : Int32) v1) (fun q2 => Option.bind (f_X1_notes i0 q2 x1 (1 : Int32) v2) (fun q3 => Option.bind (f_X1_notes i0 q3 x1 (2 : Int32) v3) (fun q4 => qa_lt (qa_st q4 i0 0 ((q4 i0 0) + (1 : Int32))) (fun m5 => some ((x1, m5)))))))
def f_X6_buy (m : qaM) (v1 : Int32) (v2 : Int32) : Option (Int32 × qaM) :=
  if v1 < 0 then (some (((-2 : Int32), m))) else (if (6 : Int32) ≤ (v1 / (10 : Int32)) then (some (((-2 : Int32), m))) else (if v2 < 0 then (some (((-2 : Int32), m))) else (if v2 ≤ (999 : Int32) then (if (m 9 0) < (8 : Int32) then (Option.bind (f_X1_adds 9 m (v1 / (10 : Int32)) (v1 - v1 / (10 : Int32) * (10 : Int32)) v2) (fun q1 => Option.bind (f_X0_laysDown 8 q1.2 q1.1) (fun q2 => some ((q1.1, q2))))) else (some (((-4 : Int32), m)))) else (some (((-2 : Int32), m))))))
def f_X1_fact (i0 : Nat) (m : qaM) (v1 : Int32) (v2 : Int32) : Option (Int32) :=
  if v1 < 0 then (some ((0 : Int32))) else (if (8 : Int32) ≤ v1 then (some ((0 : Int32))) else (if v2 < 0 then (some ((0 : Int32))) else (if v2 < (7 : Int32) then (qa_ck (qa_in ((v1 * (7 : Int32)) + v2) 56) (some ((m (i0 + 1) ((v1 * (7 : Int32)) + v2).toNatClampNeg)))) else (some ((0 : Int32))))))
def f_X1_lasts (i0 : Nat) (m : qaM) (v1 : Int32) : Option (Int32) :=
  Option.bind (f_X1_fact i0 m v1 (1 : Int32)) (fun q1 => Option.bind (f_X1_fact i0 m v1 (0 : Int32)) (fun q2 => if q2 = (2 : Int32) then (some (((400 : Int32) - ((20 : Int32) * q1)))) else (if q2 = (3 : Int32) then (some (((400 : Int32) + ((10 : Int32) * q1)))) else (if q2 = (4 : Int32) then (some (((500 : Int32) - ((20 : Int32) * q1)))) else (if q2 = (5 : Int32) then (some (((150 : Int32) + ((10 : Int32) * q1)))) else (some ((400 : Int32))))))))
def f_X6_isLinen (m : qaM) (v1 : Int32) : Option (Int32) :=
  if v1 < 0 then (some ((0 : Int32))) else (if (m 9 0) ≤ v1 then (some ((0 : Int32))) else (some ((1 : Int32))))
def f_X6_told (m : qaM) (v1 : Int32) (v2 : Int32) : Option (Int32) :=
  Option.bind (f_X6_isLinen m v1) (fun q1 => if q1 = 0 then (some ((-5 : Int32))) else (if v2 < 0 then (some ((-7 : Int32))) else (if v2 ≤ (7 : Int32) then (if v2 = (7 : Int32) then (Option.bind (f_X1_lasts 9 m v1) (fun q3 => some (q3))) else (Option.bind (f_X1_fact 9 m v1 v2) (fun q2 => some (q2)))) else (some ((-7 : Int32))))))
def b_X6_put_38 (m : qaM) (v1 : Int32) (v2 : Int32) (v3 : Int32) (s0 : Int32) (s1 : Int32) : Option (Int32 × qaM) :=
  if s0 ≤ s1 then (Option.bind (f_X1_fact 9 m v1 ((2 : Int32) + v2)) (fun q2 => Option.bind (f_X1_notes 9 m v1 ((2 : Int32) + v2) v3) (fun q3 => some ((q2, q3))))) else (some (((-7 : Int32), m)))
def f_X6_put (m : qaM) (v1 : Int32) (v2 : Int32) (v3 : Int32) : Option (Int32 × qaM) :=
  Option.bind (f_X6_isLinen m v1) (fun q1 => if q1 = 0 then (some (((-5 : Int32), m))) else (if v2 < 0 then (some (((-7 : Int32), m))) else (if (2 : Int32) < v2 then (some (((-7 : Int32), m))) else (if v3 < 0 then (some (((-7 : Int32), m))) else (if v2 = (1 : Int32) then (b_X6_put_38 m v1 v2 v3 v3 (99 : Int32)) else (b_X6_put_38 m v1 v2 v3 v3 (999 : Int32)))))))
def f_X6_lies (m : qaM) (v1 : Int32) : Option (Int32) :=
  Option.bind (f_X2_isPlace 11 m v1) (fun q1 => if q1 = 0 then (some ((-6 : Int32))) else (Option.bind (f_X2_at 11 m v1) (fun q2 => some (q2))))
def b_X2_placeOf_2 (i0 : Nat) (m : qaM) (v1 : Int32) (v2 : Int32) : Option ((Int32) ⊕ (Int32)) :=
  if (m i0 0) ≤ v2 then (qa_inr (some ((-1 : Int32)))) else (Option.bind (f_X2_at i0 m v2) (fun q1 => if q1 = v1 then (qa_inr (some (v2))) else (qa_lt (v2 + (1 : Int32)) (fun x2 => some (.inl x2)))))
def lp_X2_placeOf_2 (i0 : Nat) (m : qaM) (v1 : Int32) (v2 : Int32) : Option (Int32) :=
  qa_lp (fun s => b_X2_placeOf_2 i0 m v1 s) qa_F v2
def f_X2_placeOf (i0 : Nat) (m : qaM) (v1 : Int32) : Option (Int32) :=
  lp_X2_placeOf_2 i0 m v1 (0 : Int32)
def f_X0_canTurn (i0 : Nat) (m : qaM) (v1 : Int32) : Option (Int32) :=
  Option.bind (f_X1_fact (i0 + 1) m v1 (5 : Int32)) (fun q1 => if q1 = 0 then (Option.bind (f_X2_placeOf (i0 + 3) m v1) (fun q2 => if q2 = (-1 : Int32) then (some ((0 : Int32))) else (some ((1 : Int32))))) else (some ((0 : Int32))))
def f_X0_turnsOver (i0 : Nat) (m : qaM) (v1 : Int32) : Option (qaM) :=
  Option.bind (f_X1_fact (i0 + 1) m v1 (2 : Int32)) (fun q1 => Option.bind (f_X1_notes (i0 + 1) m v1 (2 : Int32) (q1 / (2 : Int32))) (fun q2 => Option.bind (f_X1_notes (i0 + 1) q2 v1 (5 : Int32) (1 : Int32)) (fun q3 => some (q3))))
def f_X6_turn (m : qaM) (v1 : Int32) : Option (Int32 × qaM) :=
  Option.bind (f_X6_isLinen m v1) (fun q1 => if q1 = 0 then (some (((-5 : Int32), m))) else (Option.bind (f_X0_canTurn 8 m v1) (fun q2 => if q2 = 0 then (some (((-3 : Int32), m))) else (Option.bind (f_X0_turnsOver 8 m v1) (fun q3 => Option.bind (f_X1_fact 9 q3 v1 (2 : Int32)) (fun q4 => some ((q4, q3))))))))
def b_X0_placeToTake_27 (i0 : Nat) (m : qaM) : Option (Int32) :=
  some (((m (i0 + 3) 0) - (1 : Int32)))
def b_X0_placeToTake_9 (i0 : Nat) (m : qaM) (v1 : Int32) : Option (Int32) :=
  if v1 = 0 then (if (m (i0 + 3) 0) ≤ 0 then (b_X0_placeToTake_27 i0 m) else (some ((0 : Int32)))) else (b_X0_placeToTake_27 i0 m)
def b_X0_placeToTake_115 (i0 : Nat) (m : qaM) (v1 : Int32) (v2 : Int32) (v3 : Int32) (v4 : Int32) : Option ((Int32 × Int32 × Int32) ⊕ (Int32)) :=
  qa_lt (v4 + (1 : Int32)) (fun x3 => some (.inl (v2, v3, x3)))
def b_X0_placeToTake_109 (i0 : Nat) (m : qaM) (v1 : Int32) (v4 : Int32) (v6 : Int32) : Option ((Int32 × Int32 × Int32) ⊕ (Int32)) :=
  b_X0_placeToTake_115 i0 m v1 v4 v6 v4
def b_X0_placeToTake_96 (i0 : Nat) (m : qaM) (v1 : Int32) (v2 : Int32) (v3 : Int32) (v4 : Int32) (s0 : Int32) : Option ((Int32 × Int32 × Int32) ⊕ (Int32)) :=
  if v2 = (-1 : Int32) then (b_X0_placeToTake_109 i0 m v1 v4 s0) else (if s0 ≤ v3 then (b_X0_placeToTake_115 i0 m v1 v2 v3 v4) else (b_X0_placeToTake_109 i0 m v1 v4 s0))
def b_X0_placeToTake_44 (i0 : Nat) (m : qaM) (v1 : Int32) (v2 : Int32) (v3 : Int32) (v4 : Int32) : Option ((Int32 × Int32 × Int32) ⊕ (Int32)) :=
  if (m (i0 + 3) 0) ≤ v4 then (qa_inr (some (v2))) else (Option.bind (f_X2_at (i0 + 3) m v4) (fun q1 => if v1 = (2 : Int32) then (Option.bind (f_X1_fact (i0 + 1) m q1 (2 : Int32)) (fun q4 => b_X0_placeToTake_96 i0 m v1 v2 v3 v4 (-q4))) else (Option.bind (f_X1_fact (i0 + 1) m q1 (4 : Int32)) (fun q2 => b_X0_placeToTake_96 i0 m v1 v2 v3 v4 q2))))
def lp_X0_placeToTake_44 (i0 : Nat) (m : qaM) (v1 : Int32) (v2 : Int32) (v3 : Int32) (v4 : Int32) : Option (Int32) :=
  qa_lp (fun s => b_X0_placeToTake_44 i0 m v1 s.1 s.2.1 s.2.2) qa_F (v2, v3, v4)
def f_X0_placeToTake (i0 : Nat) (m : qaM) (v1 : Int32) : Option (Int32) :=
  if v1 = 0 then (b_X0_placeToTake_9 i0 m v1) else (if v1 = (1 : Int32) then (b_X0_placeToTake_9 i0 m v1) else (lp_X0_placeToTake_44 i0 m v1 (-1 : Int32) (0 : Int32) (0 : Int32)))
def f_X6_next (m : qaM) : Option (Int32) :=
  Option.bind (f_X0_placeToTake 8 m (m 13 2)) (fun q1 => Option.bind (f_X2_at 11 m q1) (fun q2 => some (q2)))
def f_X0_markOf (i0 : Nat) (m : qaM) (v1 : Int32) (v2 : Int32) : Option (Int32) :=
  if v2 = (2 : Int32) then (some (v1)) else (if v2 = 0 then (Option.bind (f_X1_fact (i0 + 1) m v1 (2 : Int32)) (fun q2 => some (q2))) else (Option.bind (f_X1_fact (i0 + 1) m v1 (2 : Int32)) (fun q1 => some ((-q1)))))
def f_X2_removesAt (i0 : Nat) (m : qaM) (v1 : Int32) : Option (Int32 × qaM) :=
  if v1 < 0 then (some (((-1 : Int32), m))) else (if (m i0 0) ≤ v1 then (some (((-1 : Int32), m))) else (if (m i0 0) ≤ (8 : Int32) then (qa_ck (qa_in v1 8) (qa_lt (m (i0 + 1) v1.toNatClampNeg) (fun x2 => qa_ck (qa_cpok (v1 + (1 : Int32)) v1 (((m i0 0) - v1) - (1 : Int32)) 8 8) (qa_lt (qa_pt m (i0 + 1) (va_cpy (m (i0 + 1)) (m (i0 + 1)) (v1 + (1 : Int32)).toNatClampNeg v1.toNatClampNeg (((m i0 0) - v1) - (1 : Int32)).toNatClampNeg)) (fun m3 => qa_lt (qa_st m3 i0 0 ((m3 i0 0) - (1 : Int32))) (fun m5 => some ((x2, m5)))))))) else (some (((-1 : Int32), m)))))
def b_X0_sortsPile_78 (i0 : Nat) (m : qaM) (v1 : Int32) (v2 : Int32) (v3 : Int32) (v4 : Int32) (v5 : Int32) : Option ((qaM × Int32) ⊕ (qaM)) :=
  Option.bind (f_X2_insertsAt (i0 + 3) m v5 v4) (fun q3 => qa_lt (v3 + (1 : Int32)) (fun x4 => some (.inl (q3, x4))))
def b_X0_sortsPile_31 (i0 : Nat) (m : qaM) (v1 : Int32) (v2 : Int32) (v3 : Int32) (v4 : Int32) (v5 : Int32) (v6 : Int32) : Option ((Int32 × Int32) ⊕ ((qaM × Int32) ⊕ (qaM))) :=
  if (8 : Int32) ≤ v6 then (qa_inr (b_X0_sortsPile_78 i0 m v1 v2 v3 v4 v5)) else (if v5 ≤ 0 then (qa_inr (b_X0_sortsPile_78 i0 m v1 v2 v3 v4 v5)) else (Option.bind (f_X2_at (i0 + 3) m (v5 - (1 : Int32))) (fun q5 => Option.bind (f_X0_markOf i0 m q5 v1) (fun q6 => Option.bind (f_X0_markOf i0 m v4 v1) (fun q7 => if q6 ≤ q7 then (qa_inr (b_X0_sortsPile_78 i0 m v1 v2 v3 v4 v5)) else (qa_lt (v5 + (-1 : Int32)) (fun x8 => qa_lt (v6 + (1 : Int32)) (fun x9 => some (.inl (x8, x9))))))))))
def lp_X0_sortsPile_31 (i0 : Nat) (m : qaM) (v1 : Int32) (v2 : Int32) (v3 : Int32) (v4 : Int32) (v5 : Int32) (v6 : Int32) : Option ((qaM × Int32) ⊕ (qaM)) :=
  qa_lp (fun s => b_X0_sortsPile_31 i0 m v1 v2 v3 v4 s.1 s.2) qa_F (v5, v6)
def b_X0_sortsPile_10 (i0 : Nat) (m : qaM) (v1 : Int32) (v2 : Int32) (v3 : Int32) : Option ((qaM × Int32) ⊕ (qaM)) :=
  if v2 ≤ v3 then (qa_inr (some (m))) else (Option.bind (f_X2_removesAt (i0 + 3) m v3) (fun q2 => lp_X0_sortsPile_31 i0 q2.2 v1 v2 v3 q2.1 v3 (0 : Int32)))
def lp_X0_sortsPile_10 (i0 : Nat) (m : qaM) (v1 : Int32) (v2 : Int32) (v3 : Int32) : Option (qaM) :=
  qa_lp (fun s => b_X0_sortsPile_10 i0 s.1 v1 v2 s.2) qa_F (m, v3)
def f_X0_sortsPile (i0 : Nat) (m : qaM) (v1 : Int32) : Option (qaM) :=
  qa_lt (m (i0 + 3) 0) (fun x1 => lp_X0_sortsPile_10 i0 m v1 x1 (1 : Int32))
def b_X2_turnsUpsideDown_7 (i0 : Nat) (m : qaM) (v1 : Int32) (v2 : Int32) : Option ((qaM × Int32) ⊕ (qaM)) :=
  if v1 ≤ v2 then (qa_inr (some (m))) else (Option.bind (f_X2_removesAt i0 m v2) (fun q2 => Option.bind (f_X2_insertsAt i0 q2.2 (0 : Int32) q2.1) (fun q3 => qa_lt (v2 + (1 : Int32)) (fun x4 => some (.inl (q3, x4))))))
def lp_X2_turnsUpsideDown_7 (i0 : Nat) (m : qaM) (v1 : Int32) (v2 : Int32) : Option (qaM) :=
  qa_lp (fun s => b_X2_turnsUpsideDown_7 i0 s.1 v1 s.2) qa_F (m, v2)
def f_X2_turnsUpsideDown (i0 : Nat) (m : qaM) : Option (qaM) :=
  qa_lt (m i0 0) (fun x1 => lp_X2_turnsUpsideDown_7 i0 m x1 (0 : Int32))
def b_X6_pileUp_38 (m : qaM) : Option (Int32 × qaM) :=
  Option.bind (f_X2_at 11 m (0 : Int32)) (fun q2 => some ((q2, m)))
def f_X6_pileUp (m : qaM) (v1 : Int32) : Option (Int32 × qaM) :=
  if v1 < 0 then (some (((-2 : Int32), m))) else (if v1 ≤ (3 : Int32) then (if v1 = (3 : Int32) then (Option.bind (f_X2_turnsUpsideDown 11 m) (fun q3 => b_X6_pileUp_38 q3)) else (Option.bind (f_X0_sortsPile 8 m v1) (fun q1 => b_X6_pileUp_38 q1))) else (some (((-2 : Int32), m))))
def b_X0_comesBack_51 (i0 : Nat) (m : qaM) (v1 : Int32) : Option ((qaM × Int32) ⊕ (qaM)) :=
  qa_lt (v1 + (1 : Int32)) (fun x2 => some (.inl (m, x2)))
def b_X0_comesBack_2 (i0 : Nat) (m : qaM) (v1 : Int32) : Option ((qaM × Int32) ⊕ (qaM)) :=
  if (m (i0 + 1) 0) ≤ v1 then (qa_inr (some (m))) else (Option.bind (f_X1_fact (i0 + 1) m v1 (6 : Int32)) (fun q1 => if q1 ≤ 0 then (b_X0_comesBack_51 i0 m v1) else (Option.bind (f_X1_notes (i0 + 1) m v1 (6 : Int32) (q1 - (1 : Int32))) (fun q3 => if q1 = (1 : Int32) then (Option.bind (f_X0_laysDown i0 q3 v1) (fun q4 => b_X0_comesBack_51 i0 q4 v1)) else (b_X0_comesBack_51 i0 q3 v1)))))
def lp_X0_comesBack_2 (i0 : Nat) (m : qaM) (v1 : Int32) : Option (qaM) :=
  qa_lp (fun s => b_X0_comesBack_2 i0 s.1 s.2) qa_F (m, v1)
def f_X0_comesBack (i0 : Nat) (m : qaM) : Option (qaM) :=
  lp_X0_comesBack_2 i0 m (0 : Int32)
def b_X0_dropsYellow_53 (i0 : Nat) (m : qaM) (v1 : Int32) : Option ((qaM × Int32) ⊕ (qaM)) :=
  qa_lt (v1 + (-1 : Int32)) (fun x4 => some (.inl (m, x4)))
def b_X0_dropsYellow_10 (i0 : Nat) (m : qaM) (v1 : Int32) : Option ((qaM × Int32) ⊕ (qaM)) :=
  if v1 < 0 then (qa_inr (some (m))) else (Option.bind (f_X2_at (i0 + 3) m v1) (fun q2 => Option.bind (f_X1_fact (i0 + 1) m q2 (3 : Int32)) (fun q3 => if q3 = (99 : Int32) then (Option.bind (f_X2_removesAt (i0 + 3) m v1) (fun q5 => Option.bind (f_X1_notes (i0 + 1) q5.2 q5.1 (6 : Int32) (-1 : Int32)) (fun q6 => b_X0_dropsYellow_53 i0 q6 v1))) else (b_X0_dropsYellow_53 i0 m v1))))
def lp_X0_dropsYellow_10 (i0 : Nat) (m : qaM) (v1 : Int32) : Option (qaM) :=
  qa_lp (fun s => b_X0_dropsYellow_10 i0 s.1 s.2) qa_F (m, v1)
def f_X0_dropsYellow (i0 : Nat) (m : qaM) : Option (qaM) :=
  qa_lt ((m (i0 + 3) 0) - (1 : Int32)) (fun x1 => lp_X0_dropsYellow_10 i0 m x1)
def f_X0_tellsOf (i0 : Nat) (m : qaM) (v1 : Int32) : Option (qaM) :=
  Option.bind (f_X1_fact (i0 + 1) m v1 (2 : Int32)) (fun q1 => Option.bind (f_X1_fact (i0 + 1) m v1 (4 : Int32)) (fun q2 => Option.bind (f_X1_fact (i0 + 1) m v1 (1 : Int32)) (fun q3 => Option.bind (f_X1_fact (i0 + 1) m v1 (5 : Int32)) (fun q4 => Option.bind (f_X5_tellsLinen m q1 q2 q3 q4) (fun q5 => Option.bind (f_X5_tellsWeek q5 (q5 i0 3) (q5 (i0 + 5) 0)) (fun q6 => some (q6)))))))
def b_X1_wearsBy_68 (i0 : Nat) (m : qaM) (v2 : Int32) (v3 : Int32) : Option (Int32) :=
  some ((qa_max (0 : Int32) (v2 - (v3 / (2 : Int32)))))
def b_X1_wearsBy_24 (i0 : Nat) (m : qaM) (v1 : Int32) (v2 : Int32) (v3 : Int32) (s0 : Int32) : Option (Int32) :=
  Option.bind (f_X1_fact i0 m v1 (0 : Int32)) (fun q3 => if q3 = (1 : Int32) then (b_X1_wearsBy_68 i0 m v2 v3) else (if q3 = (2 : Int32) then (some ((v2 + s0))) else (if q3 = (3 : Int32) then (b_X1_wearsBy_68 i0 m v2 v3) else (if q3 = (4 : Int32) then (some (((v2 + s0) + (2 : Int32)))) else (if q3 = (5 : Int32) then (some ((v2 / (2 : Int32)))) else (some (v2)))))))
def f_X1_wearsBy (i0 : Nat) (m : qaM) (v1 : Int32) (v2 : Int32) : Option (Int32) :=
  Option.bind (f_X1_fact i0 m v1 (1 : Int32)) (fun q1 => Option.bind (f_X1_fact i0 m v1 (2 : Int32)) (fun q2 => if q2 ≤ (200 : Int32) then (b_X1_wearsBy_24 i0 m v1 v2 q1 (0 : Int32)) else (b_X1_wearsBy_24 i0 m v1 v2 q1 q1)))
def b_X0_washes_148 (i0 : Nat) (m : qaM) (v1 : Int32) (v2 : Int32) : Option ((qaM × Int32) ⊕ (qaM)) :=
  qa_lt (v2 + (1 : Int32)) (fun x1 => some (.inl (m, x1)))
def b_X0_washes_2 (i0 : Nat) (m : qaM) (v1 : Int32) (v2 : Int32) : Option ((qaM × Int32) ⊕ (qaM)) :=
  if (m (i0 + 1) 0) ≤ v2 then (qa_inr (some (m))) else (if ((v1 >>> (v2 &&& 31)) &&& (1 : Int32)) = (1 : Int32) then (Option.bind (f_X0_tellsOf i0 m v2) (fun q2 => Option.bind (f_X5_says q2 (q2 i0 4) (0 : Int32)) (fun q3 => Option.bind (f_X1_wearsBy (i0 + 1) q3.2 v2 q3.1) (fun q4 => Option.bind (f_X1_fact (i0 + 1) q3.2 v2 (2 : Int32)) (fun q5 => Option.bind (f_X1_notes (i0 + 1) q3.2 v2 (2 : Int32) (qa_min (999 : Int32) (q5 + q4))) (fun q6 => Option.bind (f_X1_notes (i0 + 1) q6 v2 (4 : Int32) (0 : Int32)) (fun q7 => Option.bind (f_X1_notes (i0 + 1) q7 v2 (6 : Int32) (q7 (i0 + 5) 1)) (fun q8 => Option.bind (f_X1_fact (i0 + 1) q8 v2 (2 : Int32)) (fun q9 => Option.bind (f_X1_lasts (i0 + 1) q8 v2) (fun q10 => if q9 < q10 then (if (q8 (i0 + 5) 1) = 0 then (Option.bind (f_X0_laysDown i0 q8 v2) (fun q11 => b_X0_washes_148 i0 q11 v1 v2)) else (b_X0_washes_148 i0 q8 v1 v2)) else (Option.bind (f_X1_notes (i0 + 1) q8 v2 (6 : Int32) (-1 : Int32)) (fun q12 => b_X0_washes_148 i0 q12 v1 v2)))))))))))) else (b_X0_washes_148 i0 m v1 v2))
def lp_X0_washes_2 (i0 : Nat) (m : qaM) (v1 : Int32) (v2 : Int32) : Option (qaM) :=
  qa_lp (fun s => b_X0_washes_2 i0 s.1 v1 s.2) qa_F (m, v2)
def f_X0_washes (i0 : Nat) (m : qaM) (v1 : Int32) : Option (qaM) :=
  lp_X0_washes_2 i0 m v1 (0 : Int32)
def f_X1_yellowsBy (i0 : Nat) (m : qaM) (v1 : Int32) (v2 : Int32) : Option (Int32) :=
  Option.bind (f_X1_fact i0 m v1 (0 : Int32)) (fun q1 => if q1 = (1 : Int32) then (some ((v2 + (1 : Int32)))) else (if q1 = (3 : Int32) then (Option.bind (f_X1_fact i0 m v1 (4 : Int32)) (fun q4 => if q4 ≤ (10 : Int32) then (some ((v2 + (1 : Int32)))) else (some (((2 : Int32) * (v2 + (1 : Int32))))))) else (some (v2))))
def b_X0_yellows_2 (i0 : Nat) (m : qaM) (v1 : Int32) : Option ((qaM × Int32) ⊕ (qaM)) :=
  if (m (i0 + 3) 0) ≤ v1 then (qa_inr (some (m))) else (Option.bind (f_X2_at (i0 + 3) m v1) (fun q1 => Option.bind (f_X0_tellsOf i0 m q1) (fun q2 => Option.bind (f_X5_says q2 (q2 i0 4) (1 : Int32)) (fun q3 => Option.bind (f_X1_yellowsBy (i0 + 1) q3.2 q1 q3.1) (fun q4 => Option.bind (f_X1_fact (i0 + 1) q3.2 q1 (3 : Int32)) (fun q5 => Option.bind (f_X1_notes (i0 + 1) q3.2 q1 (3 : Int32) (qa_min (99 : Int32) (q5 + q4))) (fun q6 => Option.bind (f_X1_fact (i0 + 1) q6 q1 (4 : Int32)) (fun q7 => Option.bind (f_X1_notes (i0 + 1) q6 q1 (4 : Int32) (qa_min (999 : Int32) (q7 + (1 : Int32)))) (fun q8 => qa_lt (v1 + (1 : Int32)) (fun x9 => some (.inl (q8, x9))))))))))))
def lp_X0_yellows_2 (i0 : Nat) (m : qaM) (v1 : Int32) : Option (qaM) :=
  qa_lp (fun s => b_X0_yellows_2 i0 s.1 s.2) qa_F (m, v1)
def f_X0_yellows (i0 : Nat) (m : qaM) : Option (qaM) :=
  lp_X0_yellows_2 i0 m (0 : Int32)
def f_X1_isCloths (i0 : Nat) (m : qaM) (v1 : Int32) : Option (Int32) :=
  Option.bind (f_X1_fact i0 m v1 (6 : Int32)) (fun q1 => if q1 = (-1 : Int32) then (some ((1 : Int32))) else (some ((0 : Int32))))
def b_X1_left_26 (i0 : Nat) (m : qaM) (v2 : Int32) (s0 : Int32) (s1 : Int32) : Option ((Int32 × Int32) ⊕ (Int32)) :=
  qa_lt (s0 + s1) (fun x2 => qa_lt (v2 + (1 : Int32)) (fun x3 => some (.inl (x2, x3))))
def b_X1_left_4 (i0 : Nat) (m : qaM) (v1 : Int32) (v2 : Int32) : Option ((Int32 × Int32) ⊕ (Int32)) :=
  if (m i0 0) ≤ v2 then (qa_inr (some (v1))) else (Option.bind (f_X1_isCloths i0 m v2) (fun q1 => if q1 = 0 then (b_X1_left_26 i0 m v2 v1 (1 : Int32)) else (b_X1_left_26 i0 m v2 v1 (0 : Int32))))
def lp_X1_left_4 (i0 : Nat) (m : qaM) (v1 : Int32) (v2 : Int32) : Option (Int32) :=
  qa_lp (fun s => b_X1_left_4 i0 m s.1 s.2) qa_F (v1, v2)
def f_X1_left (i0 : Nat) (m : qaM) : Option (Int32) :=
  lp_X1_left_4 i0 m (0 : Int32) (0 : Int32)
def b_X0_livesWeek_109 (i0 : Nat) (m : qaM) (v4 : Int32) (v5 : Int32) : Option (Int32 × qaM) :=
  qa_lt (qa_st m i0 5 ((m i0 5) + v4)) (fun m6 => qa_lt (qa_st m6 i0 6 ((m6 i0 6) ||| v5)) (fun m7 => qa_lt (qa_st m7 i0 8 ((m7 i0 8) + (1 : Int32))) (fun m8 => qa_lt (qa_st m8 i0 3 ((m8 i0 3) + (1 : Int32))) (fun m9 => some ((v4, m9))))))
def b_X0_livesWeek_68 (i0 : Nat) (m : qaM) (v3 : Int32) (v4 : Int32) (v5 : Int32) : Option (Int32 × qaM) :=
  Option.bind (f_X0_yellows i0 m) (fun q3 => Option.bind (f_X0_washes i0 q3 v5) (fun q4 => Option.bind (f_X0_dropsYellow i0 q4) (fun q5 => if (q5 i0 7) = (-1 : Int32) then (Option.bind (f_X1_left (i0 + 1) q5) (fun q10 => if v3 ≤ q10 then (b_X0_livesWeek_109 i0 q5 v4 v5) else (qa_lt (qa_st q5 i0 7 (q5 i0 8)) (fun m11 => b_X0_livesWeek_109 i0 m11 v4 v5)))) else (b_X0_livesWeek_109 i0 q5 v4 v5))))
def b_X0_livesWeek_62 (i0 : Nat) (m : qaM) (v1 : Int32) (v2 : Int32) (v3 : Int32) (v4 : Int32) (v5 : Int32) (v6 : Int32) : Option ((qaM × Int32 × Int32 × Int32) ⊕ (Int32 × qaM)) :=
  qa_lt (v6 + (1 : Int32)) (fun x15 => some (.inl (m, v4, v5, x15)))
def b_X0_livesWeek_21 (i0 : Nat) (m : qaM) (v1 : Int32) (v2 : Int32) (v3 : Int32) (v4 : Int32) (v5 : Int32) (v6 : Int32) : Option ((qaM × Int32 × Int32 × Int32) ⊕ (Int32 × qaM)) :=
  if v1 ≤ v6 then (qa_inr (b_X0_livesWeek_68 i0 m v3 v4 v5)) else (Option.bind (f_X0_placeToTake i0 m v2) (fun q12 => Option.bind (f_X2_removesAt (i0 + 3) m q12) (fun q13 => if q13.1 = (-1 : Int32) then (qa_lt (v4 + (1 : Int32)) (fun x16 => b_X0_livesWeek_62 i0 q13.2 v1 v2 v3 x16 v5 v6)) else (qa_lt (v5 ||| ((1 : Int32) <<< (q13.1 &&& 31))) (fun x14 => b_X0_livesWeek_62 i0 q13.2 v1 v2 v3 v4 x14 v6)))))
def lp_X0_livesWeek_21 (i0 : Nat) (m : qaM) (v1 : Int32) (v2 : Int32) (v3 : Int32) (v4 : Int32) (v5 : Int32) (v6 : Int32) : Option (Int32 × qaM) :=
  qa_lp (fun s => b_X0_livesWeek_21 i0 s.1 v1 v2 v3 s.2.1 s.2.2.1 s.2.2.2) qa_F (m, v4, v5, v6)
def f_X0_livesWeek (i0 : Nat) (m : qaM) (v1 : Int32) (v2 : Int32) : Option (Int32 × qaM) :=
  Option.bind (f_X1_left (i0 + 1) m) (fun q1 => Option.bind (f_X0_comesBack i0 m) (fun q2 => lp_X0_livesWeek_21 i0 q2 v1 v2 q1 (0 : Int32) (0 : Int32) (0 : Int32)))
def f_X6_live (m : qaM) : Option (Int32 × qaM) :=
  if (m 8 3) < (999 : Int32) then (Option.bind (f_X0_livesWeek 8 m (m 13 0) (m 13 2)) (fun q1 => some ((q1.1, q1.2)))) else (some (((-4 : Int32), m)))
def b_X1_mostWorn_4 (i0 : Nat) (m : qaM) (v1 : Int32) (v2 : Int32) : Option ((Int32 × Int32) ⊕ (Int32)) :=
  if (m i0 0) ≤ v2 then (qa_inr (some (v1))) else (Option.bind (f_X1_fact i0 m v2 (2 : Int32)) (fun q1 => qa_lt (qa_max v1 q1) (fun x2 => qa_lt (v2 + (1 : Int32)) (fun x3 => some (.inl (x2, x3))))))
def lp_X1_mostWorn_4 (i0 : Nat) (m : qaM) (v1 : Int32) (v2 : Int32) : Option (Int32) :=
  qa_lp (fun s => b_X1_mostWorn_4 i0 m s.1 s.2) qa_F (v1, v2)
def f_X1_mostWorn (i0 : Nat) (m : qaM) : Option (Int32) :=
  lp_X1_mostWorn_4 i0 m (-1 : Int32) (0 : Int32)
def f_X6_isWeeks (m : qaM) (v0 : Int32) : Option (Int32) :=
  if v0 < 0 then (some ((0 : Int32))) else (if (200 : Int32) < v0 then (some ((0 : Int32))) else (some ((1 : Int32))))
def f_X1_becomes (i0 : Nat) (i1 : Nat) (m : qaM) : Option (qaM) :=
  qa_lt (qa_st m i0 0 (m i1 0)) (fun m1 => qa_ck (qa_cpok (0 : Int32) (0 : Int32) (56 : Int32) 56 56) (qa_lt (qa_pt m1 (i0 + 1) (va_cpy (m1 (i1 + 1)) (m1 (i0 + 1)) (0 : Int32).toNatClampNeg (0 : Int32).toNatClampNeg (56 : Int32).toNatClampNeg)) (fun m2 => some (m2))))
def f_X2_becomes (i0 : Nat) (i1 : Nat) (m : qaM) : Option (qaM) :=
  qa_lt (qa_st m i0 0 (m i1 0)) (fun m1 => qa_ck (qa_cpok (0 : Int32) (0 : Int32) (8 : Int32) 8 8) (qa_lt (qa_pt m1 (i0 + 1) (va_cpy (m1 (i1 + 1)) (m1 (i0 + 1)) (0 : Int32).toNatClampNeg (0 : Int32).toNatClampNeg (8 : Int32).toNatClampNeg)) (fun m2 => some (m2))))
def f_X0_beginsAs (i0 : Nat) (i1 : Nat) (m : qaM) : Option (qaM) :=
  Option.bind (f_X1_becomes (i0 + 1) (i1 + 1) m) (fun q1 => Option.bind (f_X2_becomes (i0 + 3) (i1 + 3) q1) (fun q2 => qa_ck (qa_cpok (0 : Int32) (0 : Int32) (4 : Int32) 4 4) (qa_lt (qa_pt q2 (i0 + 5) (va_cpy (q2 (i1 + 5)) (q2 (i0 + 5)) (0 : Int32).toNatClampNeg (0 : Int32).toNatClampNeg (4 : Int32).toNatClampNeg)) (fun m3 => qa_lt (qa_st m3 i0 3 (m3 i1 3)) (fun m5 => qa_lt (qa_st m5 i0 4 (m5 i1 4)) (fun m6 => qa_lt (qa_st m6 i0 5 (0 : Int32)) (fun m7 => qa_lt (qa_st m7 i0 6 (0 : Int32)) (fun m8 => qa_lt (qa_st m8 i0 7 (-1 : Int32)) (fun m9 => qa_lt (qa_st m9 i0 8 (0 : Int32)) (fun m10 => some (m10)))))))))))
def b_X0_livesWeeks_2 (i0 : Nat) (m : qaM) (v1 : Int32) (v2 : Int32) : Option ((qaM × Int32) ⊕ (qaM)) :=
  if v1 ≤ v2 then (qa_inr (some (m))) else (Option.bind (f_X0_livesWeek i0 m (m (i0 + 5) 0) (m (i0 + 5) 2)) (fun q1 => qa_lt (v2 + (1 : Int32)) (fun x2 => some (.inl (q1.2, x2)))))
def lp_X0_livesWeeks_2 (i0 : Nat) (m : qaM) (v1 : Int32) (v2 : Int32) : Option (qaM) :=
  qa_lp (fun s => b_X0_livesWeeks_2 i0 s.1 v1 s.2) qa_F (m, v2)
def f_X0_livesWeeks (i0 : Nat) (m : qaM) (v1 : Int32) : Option (qaM) :=
  lp_X0_livesWeeks_2 i0 m v1 (0 : Int32)
def f_X6_thinks (m : qaM) (v1 : Int32) : Option (qaM) :=
  Option.bind (f_X0_beginsAs 20 8 m) (fun q1 => Option.bind (f_X0_livesWeeks 20 q1 v1) (fun q2 => some (q2)))
def f_X6_run (m : qaM) (v1 : Int32) (v2 : Int32) : Option (Int32 × qaM) :=
  Option.bind (f_X6_isWeeks m v1) (fun q1 => if q1 = 0 then (some (((-2 : Int32), m))) else (if v2 < 0 then (some (((-2 : Int32), m))) else (if v2 ≤ (4 : Int32) then (Option.bind (f_X6_thinks m v1) (fun q2 => if v2 = (0 : Int32) then (Option.bind (f_X1_left 21 q2) (fun q4 => some ((q4, q2)))) else (if v2 = (1 : Int32) then (some (((q2 20 7), q2))) else (if v2 = (2 : Int32) then (some (((q2 20 5), q2))) else (if v2 = (3 : Int32) then (some (((q2 20 6), q2))) else (Option.bind (f_X1_mostWorn 21 q2) (fun q8 => some ((q8, q2))))))))) else (some (((-2 : Int32), m))))))
def f_X6_then (m : qaM) (v1 : Int32) (v2 : Int32) (v3 : Int32) : Option (Int32 × qaM) :=
  Option.bind (f_X6_isLinen m v1) (fun q1 => if q1 = 0 then (some (((-5 : Int32), m))) else (Option.bind (f_X6_isWeeks m v2) (fun q2 => if q2 = 0 then (some (((-7 : Int32), m))) else (if v3 < 0 then (some (((-7 : Int32), m))) else (if v3 ≤ (1 : Int32) then (Option.bind (f_X6_thinks m v2) (fun q3 => Option.bind (f_X1_fact 21 q3 v1 ((2 : Int32) + v3)) (fun q4 => some ((q4, q3))))) else (some (((-7 : Int32), m))))))))
def f_X6_cost (m : qaM) (v1 : Int32) : Option (Int32 × qaM) :=
  Option.bind (f_X6_isWeeks m v1) (fun q1 => if q1 = 0 then (some (((-2 : Int32), m))) else (Option.bind (f_X6_thinks m v1) (fun q2 => Option.bind (f_X5_tellsLinen q2 (0 : Int32) (0 : Int32) (0 : Int32) (0 : Int32)) (fun q3 => Option.bind (f_X5_tellsWeek q3 (q3 8 3) (q3 13 0)) (fun q4 => Option.bind (f_X5_says q4 (q4 8 4) (2 : Int32)) (fun q5 => some ((((q4 20 5) * q5.1), q5.2))))))))
def b_X6_markOfLasting_22 (m : qaM) (s0 : Int32) : Option (Int32) :=
  Option.bind (f_X1_left 21 m) (fun q1 => some (((q1 * (201 : Int32)) + s0)))
def f_X6_markOfLasting (m : qaM) (v1 : Int32) : Option (Int32) :=
  if (m 20 7) = (-1 : Int32) then (b_X6_markOfLasting_22 m v1) else (b_X6_markOfLasting_22 m (m 20 7))
def f_X6_thinksByRules (m : qaM) (v1 : Int32) (v2 : Int32) : Option (qaM) :=
  Option.bind (f_X0_beginsAs 20 8 m) (fun q1 => qa_lt (qa_st q1 25 2 (v1 / (3 : Int32))) (fun m2 => qa_lt (qa_st m2 25 3 (v1 - v1 / (3 : Int32) * (3 : Int32))) (fun m3 => Option.bind (f_X0_livesWeeks 20 m3 v2) (fun q4 => some (q4)))))
def b_X6_rules_88 (m : qaM) (v3 : Int32) : Option (Int32 × qaM) :=
  some (((((v3 / (3 : Int32)) * (10 : Int32)) + (v3 - v3 / (3 : Int32) * (3 : Int32))), m))
def b_X6_rules_82 (m : qaM) (v1 : Int32) (v2 : Int32) (v3 : Int32) (v4 : Int32) (v5 : Int32) : Option ((qaM × Int32 × Int32 × Int32) ⊕ (Int32 × qaM)) :=
  qa_lt (v5 + (1 : Int32)) (fun x3 => some (.inl (m, v3, v4, x3)))
def b_X6_rules_75 (m : qaM) (v1 : Int32) (v2 : Int32) (v5 : Int32) (v6 : Int32) : Option ((qaM × Int32 × Int32 × Int32) ⊕ (Int32 × qaM)) :=
  b_X6_rules_82 m v1 v2 v5 v6 v5
def b_X6_rules_61 (m : qaM) (v1 : Int32) (v2 : Int32) (v3 : Int32) (v4 : Int32) (v5 : Int32) (s0 : Int32) : Option ((qaM × Int32 × Int32 × Int32) ⊕ (Int32 × qaM)) :=
  if v3 = (-1 : Int32) then (b_X6_rules_75 m v1 v2 v5 s0) else (if s0 ≤ v4 then (b_X6_rules_82 m v1 v2 v3 v4 v5) else (b_X6_rules_75 m v1 v2 v5 s0))
def b_X6_rules_27 (m : qaM) (v1 : Int32) (v2 : Int32) (v3 : Int32) (v4 : Int32) (v5 : Int32) : Option ((qaM × Int32 × Int32 × Int32) ⊕ (Int32 × qaM)) :=
  if (12 : Int32) ≤ v5 then (qa_inr (b_X6_rules_88 m v3)) else (Option.bind (f_X6_thinksByRules m v5 v1) (fun q2 => if v2 = 0 then (Option.bind (f_X6_markOfLasting q2 v1) (fun q4 => b_X6_rules_61 q2 v1 v2 v3 v4 v5 q4)) else (b_X6_rules_61 q2 v1 v2 v3 v4 v5 (-(q2 20 5)))))
def lp_X6_rules_27 (m : qaM) (v1 : Int32) (v2 : Int32) (v3 : Int32) (v4 : Int32) (v5 : Int32) : Option (Int32 × qaM) :=
  qa_lp (fun s => b_X6_rules_27 s.1 v1 v2 s.2.1 s.2.2.1 s.2.2.2) qa_F (m, v3, v4, v5)
def f_X6_rules (m : qaM) (v1 : Int32) (v2 : Int32) : Option (Int32 × qaM) :=
  Option.bind (f_X6_isWeeks m v1) (fun q1 => if q1 = 0 then (some (((-2 : Int32), m))) else (if v2 < 0 then (some (((-2 : Int32), m))) else (if v2 ≤ (1 : Int32) then (lp_X6_rules_27 m v1 v2 (-1 : Int32) (0 : Int32) (0 : Int32)) else (some (((-2 : Int32), m))))))
def b_X6_which_114 (m : qaM) (v1 : Int32) (v2 : Int32) (v3 : Int32) (v4 : Int32) : Option ((qaM × Int32 × Int32 × Int32) ⊕ (Int32 × qaM)) :=
  qa_lt (v4 + (1 : Int32)) (fun x5 => some (.inl (m, v2, v3, x5)))
def b_X6_which_31 (m : qaM) (v1 : Int32) (v2 : Int32) (v3 : Int32) (v4 : Int32) : Option ((qaM × Int32 × Int32 × Int32) ⊕ (Int32 × qaM)) :=
  if (m 9 0) ≤ v4 then (qa_inr (some ((v3, m)))) else (Option.bind (f_X0_canTurn 8 m v4) (fun q4 => if q4 = 0 then (b_X6_which_114 m v1 v2 v3 v4) else (Option.bind (f_X0_beginsAs 20 8 m) (fun q6 => Option.bind (f_X0_turnsOver 20 q6 v4) (fun q7 => Option.bind (f_X0_livesWeeks 20 q7 v1) (fun q8 => Option.bind (f_X1_left 21 q8) (fun q9 => if q9 ≤ v2 then (b_X6_which_114 q8 v1 v2 v3 v4) else (Option.bind (f_X1_left 21 q8) (fun q10 => b_X6_which_114 q8 v1 q10 v4 v4)))))))))
def lp_X6_which_31 (m : qaM) (v1 : Int32) (v2 : Int32) (v3 : Int32) (v4 : Int32) : Option (Int32 × qaM) :=
  qa_lp (fun s => b_X6_which_31 s.1 v1 s.2.1 s.2.2.1 s.2.2.2) qa_F (m, v2, v3, v4)
def f_X6_which (m : qaM) (v1 : Int32) : Option (Int32 × qaM) :=
  Option.bind (f_X6_isWeeks m v1) (fun q1 => if q1 = 0 then (some (((-2 : Int32), m))) else (Option.bind (f_X6_thinks m v1) (fun q2 => Option.bind (f_X1_left 21 q2) (fun q3 => lp_X6_which_31 q2 v1 q3 (-1 : Int32) (0 : Int32)))))
def b_X0_weekOfCloths_15 (i0 : Nat) (m : qaM) (v1 : Int32) (v2 : Int32) (v3 : Int32) : Option ((qaM × Int32) ⊕ (Int32 × qaM)) :=
  if v2 ≤ v3 then (qa_inr (some ((v2, m)))) else (Option.bind (f_X0_livesWeek i0 m (m (i0 + 5) 0) (m (i0 + 5) 2)) (fun q2 => Option.bind (f_X1_isCloths (i0 + 1) q2.2 v1) (fun q3 => if q3 = 0 then (qa_lt (v3 + (1 : Int32)) (fun x4 => some (.inl (q2.2, x4)))) else (qa_inr (some ((v3, q2.2)))))))
def lp_X0_weekOfCloths_15 (i0 : Nat) (m : qaM) (v1 : Int32) (v2 : Int32) (v3 : Int32) : Option (Int32 × qaM) :=
  qa_lp (fun s => b_X0_weekOfCloths_15 i0 s.1 v1 v2 s.2) qa_F (m, v3)
def f_X0_weekOfCloths (i0 : Nat) (m : qaM) (v1 : Int32) (v2 : Int32) : Option (Int32 × qaM) :=
  Option.bind (f_X1_isCloths (i0 + 1) m v1) (fun q1 => if q1 = 0 then (lp_X0_weekOfCloths_15 i0 m v1 v2 (0 : Int32)) else (some ((v2, m))))
def b_X6_when_136 (m : qaM) (v1 : Int32) (v2 : Int32) (v3 : Int32) (v4 : Int32) (v5 : Int32) : Option (Int32 × qaM) :=
  if v3 = 0 then (some ((v4, m))) else (if v4 = (-1 : Int32) then (Option.bind (f_X0_beginsAs 20 8 m) (fun q3 => Option.bind (f_X0_weekOfCloths 20 q3 v1 v2) (fun q4 => some ((q4.1, q4.2))))) else (some ((v5, m))))
def b_X6_when_122 (m : qaM) (v1 : Int32) (v2 : Int32) (v3 : Int32) (v4 : Int32) (v5 : Int32) (v6 : Int32) : Option ((qaM × Int32 × Int32 × Int32) ⊕ (Int32 × qaM)) :=
  Option.bind (f_X0_livesWeeks 20 m (1 : Int32)) (fun q6 => qa_lt (v6 + (1 : Int32)) (fun x7 => some (.inl (q6, v4, v5, x7))))
def b_X6_when_54 (m : qaM) (v1 : Int32) (v2 : Int32) (v3 : Int32) (v4 : Int32) (v5 : Int32) (v6 : Int32) : Option ((qaM × Int32 × Int32 × Int32) ⊕ (Int32 × qaM)) :=
  if v2 ≤ v6 then (qa_inr (b_X6_when_136 m v1 v2 v3 v4 v5)) else (Option.bind (f_X0_canTurn 20 m v1) (fun q5 => if q5 = 0 then (b_X6_when_122 m v1 v2 v3 v4 v5 v6) else (Option.bind (f_X0_beginsAs 26 20 m) (fun q8 => Option.bind (f_X0_turnsOver 26 q8 v1) (fun q9 => Option.bind (f_X0_weekOfCloths 26 q9 v1 (v2 - v6)) (fun q10 => qa_lt (v6 + q10.1) (fun x11 => if x11 ≤ v5 then (b_X6_when_122 q10.2 v1 v2 v3 v4 v5 v6) else (b_X6_when_122 q10.2 v1 v2 v3 v6 x11 v6))))))))
def lp_X6_when_54 (m : qaM) (v1 : Int32) (v2 : Int32) (v3 : Int32) (v4 : Int32) (v5 : Int32) (v6 : Int32) : Option (Int32 × qaM) :=
  qa_lp (fun s => b_X6_when_54 s.1 v1 v2 v3 s.2.1 s.2.2.1 s.2.2.2) qa_F (m, v4, v5, v6)
def f_X6_when (m : qaM) (v1 : Int32) (v2 : Int32) (v3 : Int32) : Option (Int32 × qaM) :=
  Option.bind (f_X6_isLinen m v1) (fun q1 => if q1 = 0 then (some (((-5 : Int32), m))) else (if v2 < (1 : Int32) then (some (((-7 : Int32), m))) else (if (60 : Int32) < v2 then (some (((-7 : Int32), m))) else (if v3 < 0 then (some (((-7 : Int32), m))) else (if v3 ≤ (1 : Int32) then (Option.bind (f_X0_beginsAs 20 8 m) (fun q2 => lp_X6_when_54 q2 v1 v2 v3 (-1 : Int32) (-1 : Int32) (0 : Int32))) else (some (((-7 : Int32), m))))))))
def b_X6_thinksWith_30 (m : qaM) (v3 : Int32) : Option (qaM) :=
  Option.bind (f_X0_livesWeeks 20 m v3) (fun q2 => some (q2))
def f_X6_thinksWith (m : qaM) (v1 : Int32) (v2 : Int32) (v3 : Int32) : Option (qaM) :=
  Option.bind (f_X0_beginsAs 20 8 m) (fun q1 => if v1 < 0 then (b_X6_thinksWith_30 q1 v3) else (if (4 : Int32) ≤ v1 then (b_X6_thinksWith_30 q1 v3) else (qa_ck (qa_in v1 4) (qa_lt (qa_st q1 25 v1.toNatClampNeg v2) (fun m4 => b_X6_thinksWith_30 m4 v3)))))
def b_X6_enough_49 (m : qaM) (v1 : Int32) (v2 : Int32) (v3 : Int32) : Option ((qaM × Int32 × Int32) ⊕ (Int32 × qaM)) :=
  qa_lt (v3 + (1 : Int32)) (fun x3 => some (.inl (m, v2, x3)))
def b_X6_enough_14 (m : qaM) (v1 : Int32) (v2 : Int32) (v3 : Int32) : Option ((qaM × Int32 × Int32) ⊕ (Int32 × qaM)) :=
  if (qa_gr 0) < v3 then (qa_inr (some ((v2, m)))) else (if v2 = (v3 - (1 : Int32)) then (Option.bind (f_X6_thinksWith m (0 : Int32) v3 v1) (fun q2 => if (q2 20 5) = 0 then (b_X6_enough_49 q2 v1 v3 v3) else (b_X6_enough_49 q2 v1 v2 v3))) else (qa_inr (some ((v2, m)))))
def lp_X6_enough_14 (m : qaM) (v1 : Int32) (v2 : Int32) (v3 : Int32) : Option (Int32 × qaM) :=
  qa_lp (fun s => b_X6_enough_14 s.1 v1 s.2.1 s.2.2) qa_F (m, v2, v3)
def f_X6_enough (m : qaM) (v1 : Int32) : Option (Int32 × qaM) :=
  Option.bind (f_X6_isWeeks m v1) (fun q1 => if q1 = 0 then (some (((-2 : Int32), m))) else (lp_X6_enough_14 m v1 (0 : Int32) (1 : Int32)))
def f_X6_feast (m : qaM) (v1 : Int32) (v2 : Int32) (v3 : Int32) : Option (Int32 × qaM) :=
  if v1 < (1 : Int32) then (some (((-1000000 : Int32), m))) else (if (200 : Int32) < v1 then (some (((-1000000 : Int32), m))) else (if v2 < 0 then (some (((-1000000 : Int32), m))) else (if v1 ≤ v2 then (some (((-1000000 : Int32), m))) else (if v3 < 0 then (some (((-1000000 : Int32), m))) else (if v3 ≤ (qa_gr 0) then (Option.bind (f_X6_thinks m v1) (fun q1 => qa_lt (q1 20 5) (fun x2 => Option.bind (f_X0_beginsAs 20 8 q1) (fun q3 => Option.bind (f_X0_livesWeeks 20 q3 v2) (fun q4 => Option.bind (f_X0_livesWeek 20 q4 v3 (q4 25 2)) (fun q5 => Option.bind (f_X0_livesWeeks 20 q5.2 ((v1 - v2) - (1 : Int32))) (fun q6 => some ((((q6 20 5) - x2), q6))))))))) else (some (((-1000000 : Int32), m))))))))
def b_X6_laundry_42 (m : qaM) (v1 : Int32) (v2 : Int32) (v3 : Int32) : Option ((qaM × Int32 × Int32) ⊕ (Int32 × qaM)) :=
  qa_lt (v3 + (1 : Int32)) (fun x3 => some (.inl (m, v2, x3)))
def b_X6_laundry_14 (m : qaM) (v1 : Int32) (v2 : Int32) (v3 : Int32) : Option ((qaM × Int32 × Int32) ⊕ (Int32 × qaM)) :=
  if (qa_gr 1) < v3 then (qa_inr (some ((v2, m)))) else (Option.bind (f_X6_thinksWith m (1 : Int32) v3 v1) (fun q2 => if (q2 20 5) = 0 then (b_X6_laundry_42 q2 v1 v3 v3) else (b_X6_laundry_42 q2 v1 v2 v3)))
def lp_X6_laundry_14 (m : qaM) (v1 : Int32) (v2 : Int32) (v3 : Int32) : Option (Int32 × qaM) :=
  qa_lp (fun s => b_X6_laundry_14 s.1 v1 s.2.1 s.2.2) qa_F (m, v2, v3)
def f_X6_laundry (m : qaM) (v1 : Int32) : Option (Int32 × qaM) :=
  Option.bind (f_X6_isWeeks m v1) (fun q1 => if q1 = 0 then (some (((-2 : Int32), m))) else (lp_X6_laundry_14 m v1 (-1 : Int32) (0 : Int32)))
def f_X6_isSheet (m : qaM) (v0 : Int32) : Option (Int32) :=
  if v0 < 0 then (some ((0 : Int32))) else (if (4 : Int32) ≤ v0 then (some ((0 : Int32))) else (some ((1 : Int32))))
def f_X3_isPlace (m : qaM) (v1 : Int32) (v2 : Int32) : Option (Int32) :=
  Option.bind (f_X6_isSheet m v1) (fun q1 => if q1 = 0 then (some ((0 : Int32))) else (if v2 < 0 then (some ((0 : Int32))) else (qa_ck (qa_in v1 4) (if (m 34 v1.toNatClampNeg) ≤ v2 then (some ((0 : Int32))) else (if (40 : Int32) ≤ v2 then (some ((0 : Int32))) else (some ((1 : Int32))))))))
def f_X3_reads (m : qaM) (v1 : Int32) (v2 : Int32) : Option (Int32) :=
  Option.bind (f_X3_isPlace m v1 v2) (fun q1 => if q1 = 0 then (some ((0 : Int32))) else (qa_ck (qa_in ((v1 * (40 : Int32)) + v2) 160) (some ((m 35 ((v1 * (40 : Int32)) + v2).toNatClampNeg)))))
def b_X6_firstOtherwise_2 (m : qaM) (v1 : Int32) (v2 : Int32) : Option ((Int32) ⊕ (Int32)) :=
  if (m 21 0) ≤ v2 then (qa_inr (some ((-1 : Int32)))) else (Option.bind (f_X3_reads m v1 v2) (fun q1 => Option.bind (f_X1_fact 21 m v2 (2 : Int32)) (fun q2 => if q1 = q2 then (qa_lt (v2 + (1 : Int32)) (fun x3 => some (.inl x3))) else (qa_inr (some (v2))))))
def lp_X6_firstOtherwise_2 (m : qaM) (v1 : Int32) (v2 : Int32) : Option (Int32) :=
  qa_lp (fun s => b_X6_firstOtherwise_2 m v1 s) qa_F v2
def f_X6_firstOtherwise (m : qaM) (v1 : Int32) : Option (Int32) :=
  lp_X6_firstOtherwise_2 m v1 (0 : Int32)
def b_X3_isMissing_17 (m : qaM) : Option (Int32) :=
  some ((1 : Int32))
def f_X3_isMissing (m : qaM) (v1 : Int32) : Option (Int32) :=
  Option.bind (f_X6_isSheet m v1) (fun q1 => if q1 = 0 then (b_X3_isMissing_17 m) else (qa_ck (qa_in v1 4) (if (m 33 v1.toNatClampNeg) = (-1 : Int32) then (b_X3_isMissing_17 m) else (some ((0 : Int32))))))
def f_X6_refusalOfTelling (m : qaM) (v1 : Int32) (v2 : Int32) : Option (Int32) :=
  Option.bind (f_X6_isSheet m v1) (fun q1 => if q1 = 0 then (some ((-2 : Int32))) else (Option.bind (f_X3_isMissing m v1) (fun q2 => if q2 = 0 then (qa_ck (qa_in v1 4) (if (m 34 v1.toNatClampNeg) = (m 9 0) then (Option.bind (f_X6_isWeeks m v2) (fun q4 => if q4 = 0 then (some ((-7 : Int32))) else (some ((0 : Int32))))) else (some ((-2 : Int32))))) else (some ((-11 : Int32))))))
def f_X6_judge (m : qaM) (v1 : Int32) (v2 : Int32) : Option (Int32 × qaM) :=
  Option.bind (f_X6_refusalOfTelling m v1 v2) (fun q1 => if q1 = 0 then (Option.bind (f_X6_thinks m v2) (fun q2 => Option.bind (f_X6_firstOtherwise q2 v1) (fun q3 => some ((q3, q2))))) else (some ((q1, m))))
def f_X6_bitIfTold (m : qaM) (v1 : Int32) (v2 : Int32) : Option (Int32) :=
  Option.bind (f_X6_firstOtherwise m v1) (fun q1 => if q1 = (-1 : Int32) then (some (((1 : Int32) <<< (v2 &&& 31)))) else (some ((0 : Int32))))
def b_X6_rulesOf_19 (m : qaM) (v1 : Int32) (v2 : Int32) (v4 : Int32) (v5 : Int32) : Option ((qaM × Int32 × Int32) ⊕ (Int32 × qaM)) :=
  if (12 : Int32) ≤ v5 then (qa_inr (some ((v4, m)))) else (Option.bind (f_X6_thinksByRules m v5 v2) (fun q2 => Option.bind (f_X6_bitIfTold q2 v1 v5) (fun q3 => qa_lt (v4 ||| q3) (fun x4 => qa_lt (v5 + (1 : Int32)) (fun x5 => some (.inl (q2, x4, x5)))))))
def lp_X6_rulesOf_19 (m : qaM) (v1 : Int32) (v2 : Int32) (v4 : Int32) (v5 : Int32) : Option (Int32 × qaM) :=
  qa_lp (fun s => b_X6_rulesOf_19 s.1 v1 v2 s.2.1 s.2.2) qa_F (m, v4, v5)
def f_X6_rulesOf (m : qaM) (v1 : Int32) (v2 : Int32) : Option (Int32 × qaM) :=
  Option.bind (f_X6_refusalOfTelling m v1 v2) (fun q1 => if q1 = 0 then (lp_X6_rulesOf_19 m v1 v2 (0 : Int32) (0 : Int32)) else (some ((q1, m))))
def b_X6_kinds_69 (m : qaM) (v1 : Int32) (v2 : Int32) (v3 : Int32) (v5 : Int32) (v6 : Int32) (v7 : Int32) (v8 : Int32) : Option ((qaM × Int32 × Int32) ⊕ (Int32 × qaM)) :=
  if v7 ≤ v8 then (qa_inr (some ((v6, m)))) else (Option.bind (f_X0_beginsAs 20 8 m) (fun q4 => Option.bind (f_X1_notes 21 q4 (v3 / (10 : Int32)) ((0 : Int32) + v5) v8) (fun q5 => Option.bind (f_X0_livesWeeks 20 q5 v2) (fun q6 => Option.bind (f_X6_bitIfTold q6 v1 v8) (fun q7 => qa_lt (v6 ||| q7) (fun x8 => qa_lt (v8 + (1 : Int32)) (fun x9 => some (.inl (q6, x8, x9)))))))))
def lp_X6_kinds_69 (m : qaM) (v1 : Int32) (v2 : Int32) (v3 : Int32) (v5 : Int32) (v6 : Int32) (v7 : Int32) (v8 : Int32) : Option (Int32 × qaM) :=
  qa_lp (fun s => b_X6_kinds_69 s.1 v1 v2 v3 v5 s.2.1 v7 s.2.2) qa_F (m, v6, v8)
def b_X6_kinds_64 (m : qaM) (v1 : Int32) (v2 : Int32) (v3 : Int32) (v5 : Int32) (v6 : Int32) (s0 : Int32) : Option (Int32 × qaM) :=
  lp_X6_kinds_69 m v1 v2 v3 v5 v6 s0 (0 : Int32)
def f_X6_kinds (m : qaM) (v1 : Int32) (v2 : Int32) (v3 : Int32) : Option (Int32 × qaM) :=
  Option.bind (f_X6_refusalOfTelling m v1 v2) (fun q1 => if q1 = 0 then (if v3 < 0 then (some (((-5 : Int32), m))) else (Option.bind (f_X6_isLinen m (v3 / (10 : Int32))) (fun q2 => if q2 = 0 then (some (((-5 : Int32), m))) else (qa_lt (v3 - v3 / (10 : Int32) * (10 : Int32)) (fun x3 => if x3 ≤ (1 : Int32) then (if x3 = 0 then (b_X6_kinds_64 m v1 v2 v3 x3 (0 : Int32) (6 : Int32)) else (b_X6_kinds_64 m v1 v2 v3 x3 (0 : Int32) (10 : Int32))) else (some (((-7 : Int32), m)))))))) else (some ((q1, m))))
def b_X6_wants_34 (m : qaM) (v1 : Int32) (v2 : Int32) (v3 : Int32) (v5 : Int32) (v6 : Int32) : Option ((qaM × Int32 × Int32) ⊕ (Int32 × qaM)) :=
  qa_ck (qa_in v3 4) (if (qa_gr v3.toNatClampNeg) < v6 then (qa_inr (some ((v5, m)))) else (Option.bind (f_X6_thinksWith m v3 v6 v2) (fun q3 => Option.bind (f_X6_bitIfTold q3 v1 v6) (fun q4 => qa_lt (v5 ||| q4) (fun x5 => qa_lt (v6 + (1 : Int32)) (fun x6 => some (.inl (q3, x5, x6))))))))
def lp_X6_wants_34 (m : qaM) (v1 : Int32) (v2 : Int32) (v3 : Int32) (v5 : Int32) (v6 : Int32) : Option (Int32 × qaM) :=
  qa_lp (fun s => b_X6_wants_34 s.1 v1 v2 v3 s.2.1 s.2.2) qa_F (m, v5, v6)
def f_X6_wants (m : qaM) (v1 : Int32) (v2 : Int32) (v3 : Int32) : Option (Int32 × qaM) :=
  Option.bind (f_X6_refusalOfTelling m v1 v2) (fun q1 => if q1 = 0 then (if v3 < 0 then (some (((-7 : Int32), m))) else (if v3 ≤ (1 : Int32) then (lp_X6_wants_34 m v1 v2 v3 (0 : Int32) (0 : Int32)) else (some (((-7 : Int32), m))))) else (some ((q1, m))))
def b_X6_weeks_93 (m : qaM) (v2 : Int32) (v4 : Int32) (v5 : Int32) : Option (Int32 × qaM) :=
  if v2 = 0 then (some ((v4, m))) else (some ((v5, m)))
def b_X6_weeks_79 (m : qaM) (v1 : Int32) (v2 : Int32) (v4 : Int32) (v5 : Int32) (v6 : Int32) : Option ((qaM × Int32 × Int32 × Int32) ⊕ (Int32 × qaM)) :=
  Option.bind (f_X0_livesWeeks 20 m (1 : Int32)) (fun q4 => qa_lt (v6 + (1 : Int32)) (fun x5 => some (.inl (q4, v4, v5, x5))))
def b_X6_weeks_74 (m : qaM) (v1 : Int32) (v2 : Int32) (v5 : Int32) (v6 : Int32) (s0 : Int32) : Option ((qaM × Int32 × Int32 × Int32) ⊕ (Int32 × qaM)) :=
  qa_lt (v5 + (1 : Int32)) (fun x6 => b_X6_weeks_79 m v1 v2 s0 x6 v6)
def b_X6_weeks_45 (m : qaM) (v1 : Int32) (v2 : Int32) (v4 : Int32) (v5 : Int32) (v6 : Int32) : Option ((qaM × Int32 × Int32 × Int32) ⊕ (Int32 × qaM)) :=
  if (60 : Int32) < v6 then (qa_inr (b_X6_weeks_93 m v2 v4 v5)) else (Option.bind (f_X6_firstOtherwise m v1) (fun q3 => if q3 = (-1 : Int32) then (if v4 = (-1 : Int32) then (b_X6_weeks_74 m v1 v2 v5 v6 v6) else (b_X6_weeks_74 m v1 v2 v5 v6 v4)) else (b_X6_weeks_79 m v1 v2 v4 v5 v6)))
def lp_X6_weeks_45 (m : qaM) (v1 : Int32) (v2 : Int32) (v4 : Int32) (v5 : Int32) (v6 : Int32) : Option (Int32 × qaM) :=
  qa_lp (fun s => b_X6_weeks_45 s.1 v1 v2 s.2.1 s.2.2.1 s.2.2.2) qa_F (m, v4, v5, v6)
def f_X6_weeks (m : qaM) (v1 : Int32) (v2 : Int32) : Option (Int32 × qaM) :=
  Option.bind (f_X6_refusalOfTelling m v1 (0 : Int32)) (fun q1 => if q1 = 0 then (if v2 < 0 then (some (((-7 : Int32), m))) else (if v2 ≤ (1 : Int32) then (Option.bind (f_X0_beginsAs 20 8 m) (fun q2 => lp_X6_weeks_45 q2 v1 v2 (-1 : Int32) (0 : Int32) (0 : Int32))) else (some (((-7 : Int32), m))))) else (some ((q1, m))))
def b_X6_laws_19 (m : qaM) (v1 : Int32) (v2 : Int32) (v4 : Int32) (v5 : Int32) : Option ((qaM × Int32 × Int32) ⊕ (Int32 × qaM)) :=
  if (m 1 0) ≤ v5 then (qa_inr (some ((v4, m)))) else (Option.bind (f_X0_beginsAs 20 8 m) (fun q2 => qa_lt (qa_st q2 20 4 v5) (fun m3 => Option.bind (f_X0_livesWeeks 20 m3 v2) (fun q4 => Option.bind (f_X6_bitIfTold q4 v1 v5) (fun q5 => qa_lt (v4 ||| q5) (fun x6 => qa_lt (v5 + (1 : Int32)) (fun x7 => some (.inl (q4, x6, x7)))))))))
def lp_X6_laws_19 (m : qaM) (v1 : Int32) (v2 : Int32) (v4 : Int32) (v5 : Int32) : Option (Int32 × qaM) :=
  qa_lp (fun s => b_X6_laws_19 s.1 v1 v2 s.2.1 s.2.2) qa_F (m, v4, v5)
def f_X6_laws (m : qaM) (v1 : Int32) (v2 : Int32) : Option (Int32 × qaM) :=
  Option.bind (f_X6_refusalOfTelling m v1 v2) (fun q1 => if q1 = 0 then (lp_X6_laws_19 m v1 v2 (0 : Int32) (0 : Int32)) else (some ((q1, m))))
def b_X3_makes_34 (m : qaM) (v1 : Int32) (v4 : Int32) : Option ((qaM × Int32) ⊕ (qaM)) :=
  if (40 : Int32) ≤ v4 then (qa_inr (some (m))) else (qa_ck (qa_in ((v1 * (40 : Int32)) + v4) 160) (qa_lt (qa_st m 35 ((v1 * (40 : Int32)) + v4).toNatClampNeg (0 : Int32)) (fun m7 => qa_lt (v4 + (1 : Int32)) (fun x8 => some (.inl (m7, x8))))))
def lp_X3_makes_34 (m : qaM) (v1 : Int32) (v4 : Int32) : Option (qaM) :=
  qa_lp (fun s => b_X3_makes_34 s.1 v1 s.2) qa_F (m, v4)
def f_X3_makes (m : qaM) (v1 : Int32) (v2 : Int32) (v3 : Int32) : Option (qaM) :=
  Option.bind (f_X6_isSheet m v1) (fun q1 => if q1 = 0 then (some (m)) else (if v3 < 0 then (some (m)) else (if (40 : Int32) < v3 then (some (m)) else (qa_ck (qa_in v1 4) (qa_lt (qa_st m 33 v1.toNatClampNeg v2) (fun m3 => qa_ck (qa_in v1 4) (qa_lt (qa_st m3 34 v1.toNatClampNeg v3) (fun m5 => lp_X3_makes_34 m5 v1 (0 : Int32)))))))))
def b_X3_writes_49 (m : qaM) (s1 : Int32) (s2 : Int32) : Option (qaM) :=
  qa_ck (qa_in s1 160) (qa_lt (qa_st m 35 s1.toNatClampNeg s2) (fun m5 => some (m5)))
def f_X3_writes (m : qaM) (v1 : Int32) (v2 : Int32) (v3 : Int32) : Option (qaM) :=
  Option.bind (f_X3_isPlace m v1 v2) (fun q1 => if q1 = 0 then (some (m)) else (qa_ck (qa_in v1 4) (if (m 33 v1.toNatClampNeg) = 0 then (b_X3_writes_49 m ((v1 * (40 : Int32)) + v2) v3.toInt8.toInt32) else (qa_ck (qa_in v1 4) (if (m 33 v1.toNatClampNeg) = (1 : Int32) then (b_X3_writes_49 m ((v1 * (40 : Int32)) + v2) v3.toInt16.toInt32) else (b_X3_writes_49 m ((v1 * (40 : Int32)) + v2) v3))))))
def b_X6_film_84 (m : qaM) : Option (Int32 × qaM) :=
  some (((m 21 0), m))
def b_X6_film_43 (m : qaM) (v1 : Int32) (v3 : Int32) : Option ((qaM × Int32) ⊕ (Int32 × qaM)) :=
  if (m 21 0) ≤ v3 then (qa_inr (b_X6_film_84 m)) else (Option.bind (f_X1_fact 21 m v3 (2 : Int32)) (fun q5 => Option.bind (f_X3_writes m v1 v3 q5) (fun q6 => qa_lt (v3 + (1 : Int32)) (fun x7 => some (.inl (q6, x7))))))
def lp_X6_film_43 (m : qaM) (v1 : Int32) (v3 : Int32) : Option (Int32 × qaM) :=
  qa_lp (fun s => b_X6_film_43 s.1 v1 s.2) qa_F (m, v3)
def f_X6_film (m : qaM) (v1 : Int32) (v2 : Int32) : Option (Int32 × qaM) :=
  Option.bind (f_X6_isSheet m v1) (fun q1 => if q1 = 0 then (some (((-2 : Int32), m))) else (Option.bind (f_X6_isWeeks m v2) (fun q2 => if q2 = 0 then (some (((-2 : Int32), m))) else (Option.bind (f_X6_thinks m v2) (fun q3 => Option.bind (f_X3_makes q3 v1 (1 : Int32) (q3 21 0)) (fun q4 => lp_X6_film_43 q4 v1 (0 : Int32)))))))
def b_X0_livesByLot_56 (i0 : Nat) (m : qaM) (v2 : Int32) (v3 : Int32) (v4 : Int64) (v6 : Int32) (s1 : Int32) (s2 : Int32) : Option ((qaM × Int64 × Int32) ⊕ (qaM)) :=
  Option.bind (f_X0_livesWeek i0 m s1 s2) (fun q3 => qa_lt (v6 + (1 : Int32)) (fun x4 => some (.inl (q3.2, v4, x4))))
def b_X0_livesByLot_9 (i0 : Nat) (m : qaM) (v2 : Int32) (v3 : Int32) (v4 : Int64) (v6 : Int32) : Option ((qaM × Int64 × Int32) ⊕ (qaM)) :=
  if v2 ≤ v6 then (qa_inr (some (m))) else (qa_lt ((v4 * (48271 : Int64)) - (v4 * (48271 : Int64)) / (2147483647 : Int64) * (2147483647 : Int64)) (fun x2 => if 0 ≤ (lg_cmp (x2 - x2 / (100 : Int64) * (100 : Int64)) v3.toInt64) then (b_X0_livesByLot_56 i0 m v2 v3 x2 v6 (m (i0 + 5) 0) (m (i0 + 5) 2)) else (b_X0_livesByLot_56 i0 m v2 v3 x2 v6 (m (i0 + 5) 0) (0 : Int32))))
def lp_X0_livesByLot_9 (i0 : Nat) (m : qaM) (v2 : Int32) (v3 : Int32) (v4 : Int64) (v6 : Int32) : Option (qaM) :=
  qa_lp (fun s => b_X0_livesByLot_9 i0 s.1 v2 v3 s.2.1 s.2.2) qa_F (m, v4, v6)
def f_X0_livesByLot (i0 : Nat) (m : qaM) (v1 : Int32) (v2 : Int32) (v3 : Int32) : Option (qaM) :=
  qa_lt ((v1 + (1 : Int32)).toInt64) (fun x1 => lp_X0_livesByLot_9 i0 m v2 v3 x1 (0 : Int32))
def b_X1_wornOfAll_4 (i0 : Nat) (m : qaM) (v1 : Int32) (v2 : Int32) : Option ((Int32 × Int32) ⊕ (Int32)) :=
  if (m i0 0) ≤ v2 then (qa_inr (some (v1))) else (Option.bind (f_X1_fact i0 m v2 (2 : Int32)) (fun q1 => qa_lt (v1 + q1) (fun x2 => qa_lt (v2 + (1 : Int32)) (fun x3 => some (.inl (x2, x3))))))
def lp_X1_wornOfAll_4 (i0 : Nat) (m : qaM) (v1 : Int32) (v2 : Int32) : Option (Int32) :=
  qa_lp (fun s => b_X1_wornOfAll_4 i0 m s.1 s.2) qa_F (v1, v2)
def f_X1_wornOfAll (i0 : Nat) (m : qaM) : Option (Int32) :=
  lp_X1_wornOfAll_4 i0 m (0 : Int32) (0 : Int32)
def f_X6_isSeed (m : qaM) (v0 : Int32) : Option (Int32) :=
  if v0 < 0 then (some ((0 : Int32))) else (if (99999 : Int32) < v0 then (some ((0 : Int32))) else (some ((1 : Int32))))
def f_X6_drawn (m : qaM) (v1 : Int32) (v2 : Int32) (v3 : Int32) : Option (Int32 × qaM) :=
  Option.bind (f_X6_isSeed m v1) (fun q1 => if q1 = 0 then (some (((-2 : Int32), m))) else (Option.bind (f_X6_isWeeks m v2) (fun q2 => if q2 = 0 then (some (((-2 : Int32), m))) else (if v3 < 0 then (some (((-2 : Int32), m))) else (if (100 : Int32) < (v3 / (10 : Int32)) then (some (((-2 : Int32), m))) else (if (v3 - v3 / (10 : Int32) * (10 : Int32)) ≤ (3 : Int32) then (Option.bind (f_X0_beginsAs 20 8 m) (fun q3 => Option.bind (f_X0_livesByLot 20 q3 v1 v2 (v3 / (10 : Int32))) (fun q4 => qa_lt (v3 - v3 / (10 : Int32) * (10 : Int32)) (fun x5 => if x5 = (0 : Int32) then (Option.bind (f_X1_left 21 q4) (fun q7 => some ((q7, q4)))) else (if x5 = (1 : Int32) then (some (((q4 20 5), q4))) else (if x5 = (2 : Int32) then (some ((((((1 : Int32) <<< ((q4 21 0) &&& 31)) - (1 : Int32)) &&& ((q4 20 6) ^^^ (-1 : Int32))), q4))) else (Option.bind (f_X1_wornOfAll 21 q4) (fun q10 => some ((q10, q4)))))))))) else (some (((-2 : Int32), m)))))))))
def b_X6_commonDivisor_2 (m : qaM) (v0 : Int32) (v1 : Int32) (v2 : Int32) : Option ((Int32 × Int32 × Int32) ⊕ (Int32)) :=
  if (64 : Int32) ≤ v2 then (qa_inr (some (v0))) else (if v1 = 0 then (qa_inr (some (v0))) else (qa_ck (decide (¬ v1 = 0)) (qa_lt (v0 - v0 / v1 * v1) (fun x2 => qa_lt (v2 + (1 : Int32)) (fun x3 => some (.inl (v1, x2, x3)))))))
def lp_X6_commonDivisor_2 (m : qaM) (v0 : Int32) (v1 : Int32) (v2 : Int32) : Option (Int32) :=
  qa_lp (fun s => b_X6_commonDivisor_2 m s.1 s.2.1 s.2.2) qa_F (v0, v1, v2)
def f_X6_commonDivisor (m : qaM) (v0 : Int32) (v1 : Int32) : Option (Int32) :=
  lp_X6_commonDivisor_2 m v0 v1 (0 : Int32)
def b_X6_odds_154 (m : qaM) (v8 : Int32) (s0 : Int32) : Option (Int64 × qaM) :=
  if v8 ≤ 0 then (some (((s0 / (1 : Int32)).toInt64, m))) else (qa_ck (decide (¬ v8 = 0)) (some (((s0 / v8).toInt64, m))))
def b_X6_odds_133 (m : qaM) (v4 : Int32) (v5 : Int32) (v7 : Int32) : Option (Int64 × qaM) :=
  Option.bind (f_X6_commonDivisor m v5 v7) (fun q6 => if v4 = 0 then (b_X6_odds_154 m q6 v7) else (b_X6_odds_154 m q6 v5))
def b_X6_odds_127 (m : qaM) (v1 : Int32) (v2 : Int32) (v3 : Int32) (v4 : Int32) (v5 : Int32) (v6 : Int32) (v7 : Int32) (v8 : Int32) : Option ((qaM × Int32 × Int32) ⊕ (Int64 × qaM)) :=
  qa_lt (v8 + (1 : Int32)) (fun x11 => some (.inl (m, v7, x11)))
def b_X6_odds_75 (m : qaM) (v1 : Int32) (v2 : Int32) (v3 : Int32) (v4 : Int32) (v5 : Int32) (v6 : Int32) (v7 : Int32) (v8 : Int32) : Option ((qaM × Int32 × Int32) ⊕ (Int64 × qaM)) :=
  if v5 ≤ v8 then (qa_inr (b_X6_odds_133 m v4 v5 v7)) else (Option.bind (f_X0_beginsAs 20 8 m) (fun q8 => Option.bind (f_X0_livesByLot 20 q8 (v1 + v8) v2 (v3 - v3 / (100 : Int32) * (100 : Int32))) (fun q9 => Option.bind (f_X1_left 21 q9) (fun q10 => if q10 < v6 then (b_X6_odds_127 q9 v1 v2 v3 v4 v5 v6 v7 v8) else (qa_lt (v7 + (1 : Int32)) (fun x12 => b_X6_odds_127 q9 v1 v2 v3 v4 v5 v6 x12 v8))))))
def lp_X6_odds_75 (m : qaM) (v1 : Int32) (v2 : Int32) (v3 : Int32) (v4 : Int32) (v5 : Int32) (v6 : Int32) (v7 : Int32) (v8 : Int32) : Option (Int64 × qaM) :=
  qa_lp (fun s => b_X6_odds_75 s.1 v1 v2 v3 v4 v5 v6 s.2.1 s.2.2) qa_F (m, v7, v8)
def f_X6_odds (m : qaM) (v1 : Int32) (v2 : Int32) (v3 : Int32) (v4 : Int32) : Option (Int64 × qaM) :=
  Option.bind (f_X6_isSeed m v1) (fun q1 => if q1 = 0 then (some (((-4611686018427387904 : Int64), m))) else (Option.bind (f_X6_isWeeks m v2) (fun q2 => if q2 = 0 then (some (((-4611686018427387904 : Int64), m))) else (if v4 < 0 then (some (((-4611686018427387904 : Int64), m))) else (if v4 ≤ (1 : Int32) then (qa_lt (v3 / (100 : Int32)) (fun x3 => if v3 < (100 : Int32) then (some (((-4611686018427387904 : Int64), m))) else (if x3 ≤ (30 : Int32) then (Option.bind (f_X6_thinks m v2) (fun q4 => Option.bind (f_X1_left 21 q4) (fun q5 => lp_X6_odds_75 q4 v1 v2 v3 v4 x3 q5 (0 : Int32) (0 : Int32)))) else (some (((-4611686018427387904 : Int64), m)))))) else (some (((-4611686018427387904 : Int64), m))))))))
def f_X6_image (m : qaM) : Option (Int32 × qaM) :=
  Option.bind (f_X0_beginsAs 14 8 m) (fun q1 => qa_lt (qa_st q1 0 7 (1 : Int32)) (fun m2 => some (((m2 15 0), m2))))
def f_X6_back (m : qaM) : Option (Int32 × qaM) :=
  if (m 0 7) = 0 then (some (((-3 : Int32), m))) else (Option.bind (f_X0_beginsAs 8 14 m) (fun q1 => some (((q1 9 0), q1))))
def b_X6_sheet_59 (m : qaM) (s1 : Int32) (s2 : Int32) (s3 : Int32) : Option (Int32 × qaM) :=
  Option.bind (f_X3_makes m s1 s2 s3) (fun q2 => some (((1 : Int32), q2)))
def b_X6_sheet_43 (m : qaM) (v1 : Int32) (v2 : Int32) (v3 : Int32) : Option (Int32 × qaM) :=
  if v2 = (-1 : Int32) then (b_X6_sheet_59 m v1 v2 (0 : Int32)) else (b_X6_sheet_59 m v1 v2 v3)
def b_X6_sheet_31 (m : qaM) (v1 : Int32) (v2 : Int32) (v3 : Int32) : Option (Int32 × qaM) :=
  if v2 = (-1 : Int32) then (b_X6_sheet_43 m v1 v2 v3) else (if 0 ≤ v3 then (b_X6_sheet_43 m v1 v2 v3) else (some (((-14 : Int32), m))))
def f_X6_sheet (m : qaM) (v1 : Int32) (v2 : Int32) (v3 : Int32) : Option (Int32 × qaM) :=
  Option.bind (f_X6_isSheet m v1) (fun q1 => if q1 = 0 then (some (((-2 : Int32), m))) else (if v2 < (-1 : Int32) then (some (((-2 : Int32), m))) else (if (2 : Int32) < v2 then (some (((-2 : Int32), m))) else (if v2 = (-1 : Int32) then (b_X6_sheet_31 m v1 v2 v3) else (if v3 ≤ (40 : Int32) then (b_X6_sheet_31 m v1 v2 v3) else (some (((-2 : Int32), m))))))))
def f_X6_cell (m : qaM) (v1 : Int32) (v2 : Int32) (v3 : Int32) : Option (Int32 × qaM) :=
  Option.bind (f_X6_isSheet m v1) (fun q1 => if q1 = 0 then (some (((-2 : Int32), m))) else (Option.bind (f_X3_isMissing m v1) (fun q2 => if q2 = 0 then (Option.bind (f_X3_isPlace m v1 v2) (fun q3 => if q3 = 0 then (some (((-12 : Int32), m))) else (Option.bind (f_X3_writes m v1 v2 v3) (fun q4 => some (((1 : Int32), q4)))))) else (some (((-11 : Int32), m))))))
def f_X3_holds (m : qaM) (v1 : Int32) (v2 : Int32) (v3 : Int32) : Option (Int32) :=
  Option.bind (f_X6_isSheet m v1) (fun q1 => if q1 = 0 then (some ((0 : Int32))) else (qa_ck (qa_in v1 4) (if (40 : Int32) < (m 34 v1.toNatClampNeg) then (some ((0 : Int32))) else (if v2 < 0 then (some ((0 : Int32))) else (if v3 < 0 then (some ((0 : Int32))) else (qa_ck (qa_in v1 4) (if (m 34 v1.toNatClampNeg) < v3 then (some ((0 : Int32))) else (qa_ck (qa_in v1 4) (if ((m 34 v1.toNatClampNeg) - v3) < v2 then (some ((0 : Int32))) else (some ((1 : Int32))))))))))))
def f_X3_moves (m : qaM) (v1 : Int32) (v2 : Int32) (v3 : Int32) (v4 : Int32) (v5 : Int32) : Option (qaM) :=
  Option.bind (f_X3_holds m v1 v2 v5) (fun q1 => if q1 = 0 then (some (m)) else (Option.bind (f_X3_holds m v3 v4 v5) (fun q2 => if q2 = 0 then (some (m)) else (qa_ck (qa_cpok ((v1 * (40 : Int32)) + v2) ((v3 * (40 : Int32)) + v4) v5 160 160) (qa_lt (qa_pt m 35 (va_cpy (m 35) (m 35) ((v1 * (40 : Int32)) + v2).toNatClampNeg ((v3 * (40 : Int32)) + v4).toNatClampNeg v5.toNatClampNeg)) (fun m3 => some (m3)))))))
def f_X6_copy (m : qaM) (v1 : Int32) (v2 : Int32) (v3 : Int32) (v4 : Int32) (v5 : Int32) : Option (Int32 × qaM) :=
  Option.bind (f_X6_isSheet m v1) (fun q1 => if q1 = 0 then (some (((-2 : Int32), m))) else (Option.bind (f_X6_isSheet m v3) (fun q2 => if q2 = 0 then (some (((-2 : Int32), m))) else (Option.bind (f_X3_isMissing m v1) (fun q3 => if q3 = 0 then (Option.bind (f_X3_isMissing m v3) (fun q4 => if q4 = 0 then (qa_ck (qa_in v1 4) (qa_ck (qa_in v3 4) (if (m 33 v1.toNatClampNeg) = (m 33 v3.toNatClampNeg) then (Option.bind (f_X3_holds m v1 v2 v5) (fun q7 => if q7 = 0 then (some (((-12 : Int32), m))) else (Option.bind (f_X3_holds m v3 v4 v5) (fun q8 => if q8 = 0 then (some (((-12 : Int32), m))) else (Option.bind (f_X3_moves m v1 v2 v3 v4 v5) (fun q9 => some ((v5, q9)))))))) else (some (((-13 : Int32), m)))))) else (some (((-11 : Int32), m))))) else (some (((-11 : Int32), m))))))))
def b_X6_buyBy_145 (m : qaM) (v1 : Int32) (v3 : Int32) (v4 : Int32) (v5 : Int32) (v6 : Int32) : Option ((qaM × Int32 × Int32) ⊕ (Int32 × qaM)) :=
  qa_lt (v6 + (1 : Int32)) (fun x10 => some (.inl (m, v5, x10)))
def b_X6_buyBy_67 (m : qaM) (v1 : Int32) (v3 : Int32) (v4 : Int32) (v5 : Int32) (v6 : Int32) : Option ((qaM × Int32 × Int32) ⊕ (Int32 × qaM)) :=
  if v4 ≤ v6 then (qa_inr (some ((v5, m)))) else (qa_lt (v3 + ((2 : Int32) * v6)) (fun x4 => Option.bind (f_X3_isPlace m v1 x4) (fun q5 => if q5 = 0 then (qa_inr (some (((-12 : Int32), m)))) else (Option.bind (f_X3_isPlace m v1 (x4 + (1 : Int32))) (fun q6 => if q6 = 0 then (qa_inr (some (((-12 : Int32), m)))) else (Option.bind (f_X3_reads m v1 x4) (fun q7 => Option.bind (f_X3_reads m v1 (x4 + (1 : Int32))) (fun q8 => Option.bind (f_X6_buy m q7 q8) (fun q9 => if q9.1 < 0 then (b_X6_buyBy_145 q9.2 v1 v3 v4 v5 v6) else (qa_lt (v5 + (1 : Int32)) (fun x11 => b_X6_buyBy_145 q9.2 v1 v3 v4 x11 v6)))))))))))
def lp_X6_buyBy_67 (m : qaM) (v1 : Int32) (v3 : Int32) (v4 : Int32) (v5 : Int32) (v6 : Int32) : Option (Int32 × qaM) :=
  qa_lp (fun s => b_X6_buyBy_67 s.1 v1 v3 v4 s.2.1 s.2.2) qa_F (m, v5, v6)
def f_X6_buyBy (m : qaM) (v1 : Int32) (v2 : Int32) (v3 : Int32) (v4 : Int32) : Option (Int32 × qaM) :=
  Option.bind (f_X6_isSheet m v1) (fun q1 => if q1 = 0 then (some (((-2 : Int32), m))) else (if v2 < 0 then (some (((-2 : Int32), m))) else (if (2 : Int32) < v2 then (some (((-2 : Int32), m))) else (if v4 < 0 then (some (((-2 : Int32), m))) else (if v4 ≤ (8 : Int32) then (Option.bind (f_X3_isMissing m v1) (fun q2 => if q2 = 0 then (qa_ck (qa_in v1 4) (if (m 33 v1.toNatClampNeg) = v2 then (lp_X6_buyBy_67 m v1 v3 v4 (0 : Int32) (0 : Int32)) else (some (((-13 : Int32), m))))) else (some (((-11 : Int32), m))))) else (some (((-2 : Int32), m))))))))
def b_X1_isOne_36 (i0 : Nat) (m : qaM) : Option (Int32) :=
  some ((1 : Int32))
def b_X1_isOne_26 (i0 : Nat) (m : qaM) (v2 : Int32) (v3 : Int32) : Option (Int32) :=
  if v3 = (4 : Int32) then (if v2 = (2 : Int32) then (b_X1_isOne_36 i0 m) else (some ((0 : Int32)))) else (some ((0 : Int32)))
def f_X1_isOne (i0 : Nat) (m : qaM) (v1 : Int32) (v2 : Int32) : Option (Int32) :=
  Option.bind (f_X1_fact i0 m v1 (0 : Int32)) (fun q1 => if q1 = v2 then (b_X1_isOne_36 i0 m) else (if v2 = 0 then (b_X1_isOne_36 i0 m) else (if q1 = (3 : Int32) then (if v2 = (1 : Int32) then (b_X1_isOne_36 i0 m) else (b_X1_isOne_26 i0 m v2 q1)) else (b_X1_isOne_26 i0 m v2 q1))))
def f_X6_taken (m : qaM) (v1 : Int32) (v2 : Int32) : Option (Int32) :=
  if v2 < 0 then (some ((-2 : Int32))) else (if v2 ≤ (6 : Int32) then (if v1 < 0 then (some ((-12 : Int32))) else (if v1 < (16 : Int32) then (if v1 < (8 : Int32) then (Option.bind (f_X2_isPlace 11 m v1) (fun q1 => if q1 = 0 then (some ((-11 : Int32))) else (Option.bind (f_X2_at 11 m v1) (fun q2 => if v2 = (6 : Int32) then (some ((-13 : Int32))) else (Option.bind (f_X1_isOne 9 m q2 v2) (fun q3 => if q3 = 0 then (some ((-13 : Int32))) else (some (q2)))))))) else (qa_lt (v1 - (8 : Int32)) (fun x4 => Option.bind (f_X6_isLinen m x4) (fun q5 => if q5 = 0 then (some ((-11 : Int32))) else (if v2 = (6 : Int32) then (Option.bind (f_X1_fact 9 m x4 (2 : Int32)) (fun q6 => some (q6))) else (some ((-13 : Int32)))))))) else (some ((-12 : Int32))))) else (some ((-2 : Int32))))
def f_X7_holds (m : qaM) (v1 : Int32) : Option (qaM) :=
  qa_ck (qa_in (m 36 32) 200) (qa_lt (qa_st m 53 (m 36 32).toNatClampNeg v1) (fun m2 => qa_lt (qa_st m2 36 32 ((m2 36 32) + (1 : Int32))) (fun m3 => some (m3))))
def f_X7_rank (m : qaM) (v0 : Int32) : Option (Int32) :=
  if v0 = 0 then (some ((0 : Int32))) else (if v0 = (11 : Int32) then (some ((1 : Int32))) else (if v0 = (12 : Int32) then (some ((2 : Int32))) else (if v0 = (13 : Int32) then (some ((3 : Int32))) else (if (15 : Int32) < v0 then (if (17 : Int32) < v0 then (if v0 = (18 : Int32) then (some ((6 : Int32))) else (some ((7 : Int32)))) else (some ((5 : Int32)))) else (some ((4 : Int32)))))))
def f_X7_puts (m : qaM) (v1 : Int32) : Option (qaM) :=
  qa_ck (qa_in (((200 : Int32) * (m 36 12)) + (m 36 34)) 1200) (qa_lt (qa_st m 43 (((200 : Int32) * (m 36 12)) + (m 36 34)).toNatClampNeg v1) (fun m2 => qa_lt (qa_st m2 36 34 ((m2 36 34) + (1 : Int32))) (fun m3 => some (m3))))
def b_X7_unwinds_67 (m : qaM) (v1 : Int32) (v2 : Int32) (s1 : Int32) (s2 : Int32) : Option ((qaM) ⊕ (qaM)) :=
  qa_lt (qa_st m 36 33 (s1 - s2)) (fun m6 => Option.bind (f_X7_puts m6 v2) (fun q7 => some (.inl q7)))
def b_X7_unwinds_62 (m : qaM) (v1 : Int32) (v2 : Int32) (s1 : Int32) : Option ((qaM) ⊕ (qaM)) :=
  b_X7_unwinds_67 m v1 v2 s1 (1 : Int32)
def b_X7_unwinds_0 (m : qaM) (v1 : Int32) : Option ((qaM) ⊕ (qaM)) :=
  if (m 36 32) ≤ 0 then (qa_inr (some (m))) else (qa_ck (qa_in ((m 36 32) - (1 : Int32)) 200) (Option.bind (f_X7_rank m (m 53 ((m 36 32) - (1 : Int32)).toNatClampNeg)) (fun q2 => if q2 < v1 then (qa_inr (some (m))) else (qa_lt (qa_st m 36 32 ((m 36 32) - (1 : Int32))) (fun m3 => qa_ck (qa_in (m3 36 32) 200) (qa_lt (m3 53 (m3 36 32).toNatClampNeg) (fun x5 => if x5 = (13 : Int32) then (b_X7_unwinds_62 m3 v1 x5 (m3 36 33)) else (if x5 = (19 : Int32) then (b_X7_unwinds_62 m3 v1 x5 (m3 36 33)) else (b_X7_unwinds_67 m3 v1 x5 (m3 36 33) (0 : Int32))))))))))
def lp_X7_unwinds_0 (m : qaM) (v1 : Int32) : Option (qaM) :=
  qa_lp (fun s => b_X7_unwinds_0 s v1) qa_F m
def f_X7_unwinds (m : qaM) (v1 : Int32) : Option (qaM) :=
  lp_X7_unwinds_0 m v1
def b_X7_between_55 (m : qaM) (v1 : Int32) : Option (Int32 × qaM) :=
  Option.bind (f_X7_holds m v1) (fun q5 => some (((1 : Int32), q5)))
def b_X7_between_17 (m : qaM) (v1 : Int32) (s1 : Int32) : Option (Int32 × qaM) :=
  Option.bind (f_X7_unwinds m s1) (fun q3 => Option.bind (f_X7_rank q3 v1) (fun q4 => if q4 = (4 : Int32) then (if (q3 36 32) ≤ 0 then (b_X7_between_55 q3 v1) else (qa_ck (qa_in ((q3 36 32) - (1 : Int32)) 200) (Option.bind (f_X7_rank q3 (q3 53 ((q3 36 32) - (1 : Int32)).toNatClampNeg)) (fun q7 => if q7 = (4 : Int32) then (some (((0 : Int32), q3))) else (b_X7_between_55 q3 v1))))) else (b_X7_between_55 q3 v1)))
def f_X7_between (m : qaM) (v1 : Int32) : Option (Int32 × qaM) :=
  Option.bind (f_X7_rank m v1) (fun q1 => if q1 = (4 : Int32) then (b_X7_between_17 m v1 (5 : Int32)) else (Option.bind (f_X7_rank m v1) (fun q2 => b_X7_between_17 m v1 q2)))
def f_X7_in (m : qaM) (v0 : Int32) (v1 : Int32) (v2 : Int32) : Option (Int32) :=
  if v0 < v1 then (some ((0 : Int32))) else (if v2 < v0 then (some ((0 : Int32))) else (some ((1 : Int32))))
def b_X7_wordFrom_88 (m : qaM) (v1 : Int32) (v2 : Int32) (v3 : Int32) (v4 : Int32) : Option ((Int32) ⊕ (Int32)) :=
  if v4 = 0 then (qa_lt (v3 + (1 : Int32)) (fun x1 => some (.inl x1))) else (qa_inr (some (v3)))
def b_X7_wordFrom_80 (m : qaM) (v1 : Int32) (v2 : Int32) (v3 : Int32) (v5 : Int32) (s0 : Int32) : Option ((Int32 × Int32) ⊕ ((Int32) ⊕ (Int32))) :=
  qa_lt (v5 + (1 : Int32)) (fun x3 => some (.inl (s0, x3)))
def b_X7_wordFrom_72 (m : qaM) (v1 : Int32) (v2 : Int32) (v3 : Int32) (v5 : Int32) (s0 : Int32) (s1 : Int32) : Option ((Int32 × Int32) ⊕ ((Int32) ⊕ (Int32))) :=
  if s0 = s1 then (b_X7_wordFrom_80 m v1 v2 v3 v5 (1 : Int32)) else (b_X7_wordFrom_80 m v1 v2 v3 v5 (0 : Int32))
def b_X7_wordFrom_26 (m : qaM) (v1 : Int32) (v2 : Int32) (v3 : Int32) (v4 : Int32) (v5 : Int32) : Option ((Int32 × Int32) ⊕ ((Int32) ⊕ (Int32))) :=
  if (8 : Int32) ≤ v5 then (qa_inr (b_X7_wordFrom_88 m v1 v2 v3 v4)) else (if v4 = 0 then (qa_inr (b_X7_wordFrom_88 m v1 v2 v3 v4)) else (qa_ck (qa_in (((8 : Int32) * v3) + v5) 96) (if v2 ≤ (v1 + v5) then (b_X7_wordFrom_72 m v1 v2 v3 v5 (m 52 (((8 : Int32) * v3) + v5).toNatClampNeg) (32 : Int32)) else (qa_ck (qa_in (v1 + v5) 160) (b_X7_wordFrom_72 m v1 v2 v3 v5 (m 52 (((8 : Int32) * v3) + v5).toNatClampNeg) (m 42 (v1 + v5).toNatClampNeg))))))
def lp_X7_wordFrom_26 (m : qaM) (v1 : Int32) (v2 : Int32) (v3 : Int32) (v4 : Int32) (v5 : Int32) : Option ((Int32) ⊕ (Int32)) :=
  qa_lp (fun s => b_X7_wordFrom_26 m v1 v2 v3 s.1 s.2) qa_F (v4, v5)
def b_X7_wordFrom_21 (m : qaM) (v1 : Int32) (v2 : Int32) (v3 : Int32) (s0 : Int32) : Option ((Int32) ⊕ (Int32)) :=
  lp_X7_wordFrom_26 m v1 v2 v3 s0 (0 : Int32)
def b_X7_wordFrom_2 (m : qaM) (v1 : Int32) (v2 : Int32) (v3 : Int32) : Option ((Int32) ⊕ (Int32)) :=
  if (12 : Int32) ≤ v3 then (qa_inr (some ((12 : Int32)))) else (if (8 : Int32) < (v2 - v1) then (b_X7_wordFrom_21 m v1 v2 v3 (0 : Int32)) else (b_X7_wordFrom_21 m v1 v2 v3 (1 : Int32)))
def lp_X7_wordFrom_2 (m : qaM) (v1 : Int32) (v2 : Int32) (v3 : Int32) : Option (Int32) :=
  qa_lp (fun s => b_X7_wordFrom_2 m v1 v2 s) qa_F v3
def f_X7_wordFrom (m : qaM) (v1 : Int32) (v2 : Int32) : Option (Int32) :=
  lp_X7_wordFrom_2 m v1 v2 (0 : Int32)
def b_X7_goesNext_390 (m : qaM) (s1 : Int32) : Option (qaM) :=
  qa_lt (qa_st m 36 28 s1) (fun m8 => qa_lt (qa_st m8 36 26 ((m8 36 26) + (1 : Int32))) (fun m9 => some (m9)))
def b_X7_goesNext_379 (m : qaM) (v1 : Int32) (s0 : Int32) : Option (qaM) :=
  if s0 = 0 then (b_X7_goesNext_390 m (-1 : Int32)) else (b_X7_goesNext_390 m v1)
def b_X7_goesNext_374 (m : qaM) (v1 : Int32) : Option (qaM) :=
  b_X7_goesNext_379 m v1 (1 : Int32)
def b_X7_goesNext_320 (m : qaM) (s1 : Int32) : Option (qaM) :=
  qa_lt (qa_st m 36 28 s1) (fun m10 => some (m10))
def b_X7_goesNext_309 (m : qaM) (v2 : Int32) : Option (qaM) :=
  if v2 ≤ (4 : Int32) then (b_X7_goesNext_320 m (1 : Int32)) else (b_X7_goesNext_320 m (-1 : Int32))
def b_X7_goesNext_290 (m : qaM) (v2 : Int32) (s1 : Int32) : Option ((qaM × Int32) ⊕ (qaM)) :=
  qa_lt (qa_st m 36 29 s1) (fun m13 => qa_lt (v2 + (1 : Int32)) (fun x14 => qa_lt (qa_st m13 36 26 ((m13 36 26) + (1 : Int32))) (fun m15 => some (.inl (m15, x14)))))
def b_X7_goesNext_230 (m : qaM) (v2 : Int32) : Option ((qaM × Int32) ⊕ (qaM)) :=
  if (m 36 9) ≤ (m 36 26) then (qa_inr (b_X7_goesNext_309 m v2)) else (qa_ck (qa_in (m 36 26) 160) (Option.bind (f_X7_in m (m 42 (m 36 26).toNatClampNeg) (48 : Int32) (57 : Int32)) (fun q12 => if q12 = 0 then (qa_inr (b_X7_goesNext_309 m v2)) else (if (4 : Int32) ≤ v2 then (b_X7_goesNext_290 m v2 (0 : Int32)) else (qa_ck (qa_in (m 36 26) 160) (b_X7_goesNext_290 m v2 ((((10 : Int32) * (m 36 29)) + (m 42 (m 36 26).toNatClampNeg)) - (48 : Int32))))))))
def lp_X7_goesNext_230 (m : qaM) (v2 : Int32) : Option (qaM) :=
  qa_lp (fun s => b_X7_goesNext_230 s.1 s.2) qa_F (m, v2)
def b_X7_goesNext_211 (m : qaM) (s1 : Int32) : Option (qaM) :=
  qa_lt (qa_st m 36 29 s1) (fun m19 => some (m19))
def b_X7_goesNext_195 (m : qaM) (v2 : Int32) (s1 : Int32) : Option (qaM) :=
  qa_lt (qa_st m 36 28 s1) (fun m18 => if (3 : Int32) ≤ v2 then (b_X7_goesNext_211 m18 (v2 - (3 : Int32))) else (b_X7_goesNext_211 m18 v2))
def b_X7_goesNext_146 (m : qaM) : Option (qaM) :=
  Option.bind (f_X7_wordFrom m (m 36 27) (m 36 26)) (fun q17 => if (3 : Int32) ≤ q17 then (if (9 : Int32) ≤ q17 then (if q17 = (12 : Int32) then (b_X7_goesNext_195 m q17 (-1 : Int32)) else (b_X7_goesNext_195 m q17 (((4 : Int32) + q17) - (9 : Int32)))) else (b_X7_goesNext_195 m q17 (2 : Int32))) else (b_X7_goesNext_195 m q17 (3 : Int32)))
def b_X7_goesNext_103 (m : qaM) : Option ((qaM) ⊕ (qaM)) :=
  if (m 36 9) ≤ (m 36 26) then (qa_inr (b_X7_goesNext_146 m)) else (qa_ck (qa_in (m 36 26) 160) (Option.bind (f_X7_in m (m 42 (m 36 26).toNatClampNeg) (97 : Int32) (122 : Int32)) (fun q21 => if q21 = 0 then (qa_inr (b_X7_goesNext_146 m)) else (qa_lt (qa_st m 36 26 ((m 36 26) + (1 : Int32))) (fun m22 => some (.inl m22))))))
def lp_X7_goesNext_103 (m : qaM) : Option (qaM) :=
  qa_lp (fun s => b_X7_goesNext_103 s) qa_F m
def b_X7_goesNext_52 (m : qaM) : Option (qaM) :=
  qa_lt (qa_st m 36 27 (m 36 26)) (fun m1 => qa_lt (qa_st m1 36 28 (0 : Int32)) (fun m2 => qa_lt (qa_st m2 36 29 (0 : Int32)) (fun m3 => if (m3 36 26) = (m3 36 9) then (some (m3)) else (qa_ck (qa_in (m3 36 26) 160) (qa_lt (m3 42 (m3 36 26).toNatClampNeg) (fun x5 => Option.bind (f_X7_in m3 x5 (97 : Int32) (122 : Int32)) (fun q6 => if q6 = 0 then (Option.bind (f_X7_in m3 x5 (48 : Int32) (57 : Int32)) (fun q7 => if q7 = 0 then (if x5 = (40 : Int32) then (b_X7_goesNext_374 m3 x5) else (if x5 = (41 : Int32) then (b_X7_goesNext_374 m3 x5) else (if x5 = (59 : Int32) then (b_X7_goesNext_374 m3 x5) else (if x5 = (43 : Int32) then (b_X7_goesNext_374 m3 x5) else (if x5 = (45 : Int32) then (b_X7_goesNext_374 m3 x5) else (if x5 = (42 : Int32) then (b_X7_goesNext_374 m3 x5) else (if x5 = (60 : Int32) then (b_X7_goesNext_374 m3 x5) else (if x5 = (61 : Int32) then (b_X7_goesNext_374 m3 x5) else (b_X7_goesNext_379 m3 x5 (0 : Int32)))))))))) else (lp_X7_goesNext_230 m3 (0 : Int32)))) else (lp_X7_goesNext_103 m3))))))))
def b_X7_goesNext_39 (m : qaM) : Option ((qaM) ⊕ (qaM)) :=
  qa_lt (qa_st m 36 26 ((m 36 26) + (1 : Int32))) (fun m24 => some (.inl m24))
def b_X7_goesNext_0 (m : qaM) : Option ((qaM) ⊕ (qaM)) :=
  if (m 36 9) ≤ (m 36 26) then (qa_inr (b_X7_goesNext_52 m)) else (qa_ck (qa_in (m 36 26) 160) (if (m 42 (m 36 26).toNatClampNeg) = (32 : Int32) then (b_X7_goesNext_39 m) else (qa_ck (qa_in (m 36 26) 160) (if (m 42 (m 36 26).toNatClampNeg) = (10 : Int32) then (b_X7_goesNext_39 m) else (qa_inr (b_X7_goesNext_52 m))))))
def lp_X7_goesNext_0 (m : qaM) : Option (qaM) :=
  qa_lp (fun s => b_X7_goesNext_0 s) qa_F m
def f_X7_goesNext (m : qaM) : Option (qaM) :=
  lp_X7_goesNext_0 m
def f_X7_opensOne (m : qaM) (v1 : Int32) : Option (Int32 × qaM) :=
  if (m 36 33) = (5 : Int32) then (some (((0 : Int32), m))) else (qa_lt (qa_st m 36 33 ((m 36 33) + (1 : Int32))) (fun m1 => Option.bind (f_X7_holds m1 v1) (fun q2 => some (((1 : Int32), q2)))))
def f_X7_signOf (m : qaM) : Option (Int32) :=
  if (m 36 28) = (4 : Int32) then (some ((11 : Int32))) else (if (m 36 28) = (5 : Int32) then (some ((12 : Int32))) else (if (m 36 28) = (60 : Int32) then (some ((14 : Int32))) else (if (m 36 28) = (61 : Int32) then (some ((15 : Int32))) else (if (m 36 28) = (43 : Int32) then (some ((16 : Int32))) else (if (m 36 28) = (45 : Int32) then (some ((17 : Int32))) else (if (m 36 28) = (42 : Int32) then (some ((18 : Int32))) else (some ((-1 : Int32)))))))))
def b_X7_eRead_262 (m : qaM) (v1 : Int32) (s0 : Int32) : Option ((qaM × Int32 × Int32) ⊕ (Int32 × qaM)) :=
  some (.inl (m, v1, s0))
def b_X7_eRead_159 (m : qaM) : Option (Int32 × qaM) :=
  Option.bind (f_X7_unwinds m (1 : Int32)) (fun q10 => if (q10 36 32) = 0 then (some (((1 : Int32), q10))) else (some (((0 : Int32), q10))))
def b_X7_eRead_61 (m : qaM) (v2 : Int32) (s1 : Int32) : Option ((qaM × Int32 × Int32) ⊕ (Int32 × qaM)) :=
  Option.bind (f_X7_puts m s1) (fun q11 => Option.bind (f_X7_unwinds q11 (7 : Int32)) (fun q12 => some (.inl (q12, (0 : Int32), v2))))
def b_X7_eRead_38 (m : qaM) (v2 : Int32) : Option ((qaM × Int32 × Int32) ⊕ (Int32 × qaM)) :=
  if (m 36 28) = (1 : Int32) then (b_X7_eRead_61 m v2 ((100000 : Int32) + (m 36 29))) else (b_X7_eRead_61 m v2 (m 36 29))
def b_X7_eRead_99 (m : qaM) (v1 : Int32) : Option ((qaM × Int32 × Int32) ⊕ (Int32 × qaM)) :=
  if (m 36 28) = (45 : Int32) then (Option.bind (f_X7_opensOne m (19 : Int32)) (fun q14 => if q14.1 = 0 then (qa_inr (some (((0 : Int32), q14.2)))) else (some (.inl (q14.2, v1, (0 : Int32)))))) else (if (m 36 28) = (40 : Int32) then (Option.bind (f_X7_opensOne m (0 : Int32)) (fun q13 => if q13.1 = 0 then (qa_inr (some (((0 : Int32), q13.2)))) else (some (.inl (q13.2, v1, (1 : Int32)))))) else (qa_inr (some (((0 : Int32), m)))))
def b_X7_eRead_14 (m : qaM) (v1 : Int32) (v2 : Int32) : Option ((qaM × Int32 × Int32) ⊕ (Int32 × qaM)) :=
  Option.bind (f_X7_goesNext m) (fun q3 => if v1 = 0 then (if (q3 36 28) = (59 : Int32) then (qa_inr (b_X7_eRead_159 q3)) else (if (q3 36 28) = (41 : Int32) then (Option.bind (f_X7_unwinds q3 (1 : Int32)) (fun q6 => if (q6 36 32) = 0 then (qa_inr (some (((0 : Int32), q6)))) else (qa_lt (qa_st q6 36 32 ((q6 36 32) - (1 : Int32))) (fun m7 => qa_lt (qa_st m7 36 33 ((m7 36 33) - (1 : Int32))) (fun m8 => Option.bind (f_X7_unwinds m8 (7 : Int32)) (fun q9 => some (.inl (q9, v1, v2)))))))) else (Option.bind (f_X7_signOf q3) (fun q4 => if q4 = (-1 : Int32) then (qa_inr (some (((0 : Int32), q3)))) else (Option.bind (f_X7_between q3 q4) (fun q5 => if q5.1 = 0 then (qa_inr (some (((0 : Int32), q5.2)))) else (if (12 : Int32) < q4 then (b_X7_eRead_262 q5.2 (1 : Int32) (0 : Int32)) else (b_X7_eRead_262 q5.2 (1 : Int32) (1 : Int32))))))))) else (if (q3 36 28) = (1 : Int32) then (b_X7_eRead_38 q3 v2) else (if (q3 36 28) = (2 : Int32) then (b_X7_eRead_38 q3 v2) else (if (q3 36 28) = (6 : Int32) then (if v2 = 0 then (b_X7_eRead_99 q3 v1) else (Option.bind (f_X7_opensOne q3 (13 : Int32)) (fun q15 => if q15.1 = 0 then (qa_inr (some (((0 : Int32), q15.2)))) else (some (.inl (q15.2, v1, v2)))))) else (b_X7_eRead_99 q3 v1)))))
def lp_X7_eRead_14 (m : qaM) (v1 : Int32) (v2 : Int32) : Option (Int32 × qaM) :=
  qa_lp (fun s => b_X7_eRead_14 s.1 s.2.1 s.2.2) qa_F (m, v1, v2)
def f_X7_eRead (m : qaM) : Option (Int32 × qaM) :=
  qa_lt (qa_st m 36 32 (0 : Int32)) (fun m1 => qa_lt (qa_st m1 36 33 (0 : Int32)) (fun m2 => lp_X7_eRead_14 m2 (1 : Int32) (1 : Int32)))
def b_X7_text_122 (m : qaM) (v1 : Int32) : Option (Int32 × qaM) :=
  qa_ck (qa_in (((4 : Int32) * (m 36 12)) + (3 : Int32)) 24) (qa_lt (qa_st m 44 (((4 : Int32) * (m 36 12)) + (3 : Int32)).toNatClampNeg (m 36 34)) (fun m4 => qa_lt (qa_st m4 36 9 (0 : Int32)) (fun m5 => if v1 = 0 then (some ((((-100 : Int32) - (m5 36 27)), m5))) else (qa_lt (qa_st m5 36 12 ((m5 36 12) + (1 : Int32))) (fun m6 => some ((((m6 36 12) - (1 : Int32)), m6)))))))
def b_X7_text_121 (m : qaM) (s0 : Int32) : Option (Int32 × qaM) :=
  b_X7_text_122 m s0
def b_X7_text_101 (m : qaM) (v1 : Int32) : Option (Int32 × qaM) :=
  if v1 = 0 then (b_X7_text_122 m v1) else (Option.bind (f_X7_goesNext m) (fun q7 => if (q7 36 28) = 0 then (b_X7_text_121 q7 (1 : Int32)) else (b_X7_text_121 q7 (0 : Int32))))
def b_X7_text_94 (m : qaM) (v2 : Int32) (s0 : Int32) : Option ((qaM × Int32 × Int32) ⊕ (Int32 × qaM)) :=
  qa_lt (v2 + (1 : Int32)) (fun x11 => some (.inl (m, s0, x11)))
def b_X7_text_93 (m : qaM) (v2 : Int32) : Option ((qaM × Int32 × Int32) ⊕ (Int32 × qaM)) :=
  b_X7_text_94 m v2 (0 : Int32)
def b_X7_text_60 (m : qaM) (v2 : Int32) (s0 : Int32) : Option ((qaM × Int32 × Int32) ⊕ (Int32 × qaM)) :=
  qa_ck (qa_in (((4 : Int32) * (m 36 12)) + v2) 24) (qa_lt (qa_st m 44 (((4 : Int32) * (m 36 12)) + v2).toNatClampNeg (m 36 34)) (fun m10 => if s0 = 0 then (b_X7_text_93 m10 v2) else (Option.bind (f_X7_eRead m10) (fun q12 => if q12.1 = 0 then (b_X7_text_93 q12.2 v2) else (b_X7_text_94 q12.2 v2 (1 : Int32))))))
def b_X7_text_59 (m : qaM) (v2 : Int32) : Option ((qaM × Int32 × Int32) ⊕ (Int32 × qaM)) :=
  b_X7_text_60 m v2 (0 : Int32)
def b_X7_text_26 (m : qaM) (v1 : Int32) (v2 : Int32) : Option ((qaM × Int32 × Int32) ⊕ (Int32 × qaM)) :=
  if (3 : Int32) ≤ v2 then (qa_inr (b_X7_text_101 m v1)) else (if v1 = 0 then (qa_inr (b_X7_text_101 m v1)) else (Option.bind (f_X7_goesNext m) (fun q8 => if (q8 36 28) = (3 : Int32) then (if (q8 36 29) = v2 then (b_X7_text_60 q8 v2 (1 : Int32)) else (b_X7_text_59 q8 v2)) else (b_X7_text_59 q8 v2))))
def lp_X7_text_26 (m : qaM) (v1 : Int32) (v2 : Int32) : Option (Int32 × qaM) :=
  qa_lp (fun s => b_X7_text_26 s.1 s.2.1 s.2.2) qa_F (m, v1, v2)
def f_X7_text (m : qaM) : Option (Int32 × qaM) :=
  if (m 36 12) = (6 : Int32) then (some (((-4 : Int32), m))) else (qa_lt (qa_st m 36 26 (0 : Int32)) (fun m1 => qa_lt (qa_st m1 36 34 (0 : Int32)) (fun m2 => lp_X7_text_26 m2 (1 : Int32) (0 : Int32))))
def b_X7_init_1009 (m : qaM) : Option (qaM) :=
  qa_lt (qa_st m 36 9 (33 : Int32)) (fun m1 => Option.bind (f_X7_text m1) (fun q2 => some (q2.2)))
def b_X7_init_985 (m : qaM) (v1 : Int32) : Option ((qaM × Int32) ⊕ (qaM)) :=
  if (33 : Int32) ≤ v1 then (qa_inr (b_X7_init_1009 m)) else (qa_ck (qa_in v1 33) (qa_ck (qa_in v1 160) (qa_lt (qa_st m 42 v1.toNatClampNeg (m 51 v1.toNatClampNeg)) (fun m5 => qa_lt (v1 + (1 : Int32)) (fun x6 => some (.inl (m5, x6)))))))
def lp_X7_init_985 (m : qaM) (v1 : Int32) : Option (qaM) :=
  qa_lp (fun s => b_X7_init_985 s.1 s.2) qa_F (m, v1)
def f_X7_init (m : qaM) : Option (qaM) :=
  lp_X7_init_985 m (0 : Int32)
def f_X7_within (m : qaM) (v0 : Int32) (v1 : Int32) (v2 : Int32) : Option (Int32) :=
  if v1 ≤ v0 then (if v0 ≤ v2 then (some (v0)) else (some (v2))) else (some (v1))
def f_X7_isLinen (m : qaM) (v1 : Int32) : Option (Int32) :=
  Option.bind (f_X7_in m v1 (0 : Int32) ((m 36 0) - (1 : Int32))) (fun q1 => qa_ck (qa_bl q1) (some (q1)))
def f_X7_areWeeks (m : qaM) (v0 : Int32) : Option (Int32) :=
  Option.bind (f_X7_in m v0 (0 : Int32) (200 : Int32)) (fun q1 => qa_ck (qa_bl q1) (some (q1)))
def b_X7_count_66 (m : qaM) (v1 : Int32) : Option (Int32) :=
  qa_ck (qa_in (v1 - (2 : Int32)) 4) (some ((m 41 (v1 - (2 : Int32)).toNatClampNeg)))
def f_X7_count (m : qaM) (v1 : Int32) : Option (Int32) :=
  if v1 = (0 : Int32) then (some ((m 36 0))) else (if v1 = (1 : Int32) then (some ((m 36 5))) else (if v1 = (2 : Int32) then (b_X7_count_66 m v1) else (if v1 = (3 : Int32) then (b_X7_count_66 m v1) else (if v1 = (4 : Int32) then (b_X7_count_66 m v1) else (if v1 = (5 : Int32) then (b_X7_count_66 m v1) else (if v1 = (6 : Int32) then (some ((m 36 7))) else (if v1 = (7 : Int32) then (some ((m 36 12))) else (if v1 = (8 : Int32) then (some ((m 36 13))) else (if v1 = (9 : Int32) then (some ((m 36 9))) else (some ((-2 : Int32))))))))))))
def b_X7_set_33 (m : qaM) (v1 : Int32) (v2 : Int32) (s0 : Int32) (s1 : Int32) (s2 : Int32) : Option (Int32 × qaM) :=
  Option.bind (f_X7_in m s0 s1 s2) (fun q2 => if q2 = 0 then (some (((-7 : Int32), m))) else (qa_ck (qa_in v1 4) (qa_lt (m 41 v1.toNatClampNeg) (fun x4 => qa_ck (qa_in v1 4) (qa_lt (qa_st m 41 v1.toNatClampNeg v2) (fun m6 => some ((x4, m6))))))))
def f_X7_set (m : qaM) (v1 : Int32) (v2 : Int32) : Option (Int32 × qaM) :=
  Option.bind (f_X7_in m v1 (0 : Int32) (3 : Int32)) (fun q1 => if q1 = 0 then (some (((-5 : Int32), m))) else (if v1 = 0 then (b_X7_set_33 m v1 v2 v2 (0 : Int32) (8 : Int32)) else (if v1 = (3 : Int32) then (b_X7_set_33 m v1 v2 v2 (0 : Int32) (2 : Int32)) else (b_X7_set_33 m v1 v2 v2 (0 : Int32) (3 : Int32)))))
def f_X7_isByte (m : qaM) (v0 : Int32) : Option (Int32) :=
  Option.bind (f_X7_in m v0 (0 : Int32) (255 : Int32)) (fun q1 => qa_ck (qa_bl q1) (some (q1)))
def b_X7_feed_125 (m : qaM) (v1 : Int32) (v2 : Int32) (v3 : Int32) (v4 : Int32) (v5 : Int32) (v6 : Int32) (v7 : Int32) (s1 : Int32) (s2 : Int32) : Option ((qaM × Int32) ⊕ (Int32 × qaM)) :=
  qa_ck (qa_in s1 160) (qa_lt (qa_st m 42 s1.toNatClampNeg s2) (fun m8 => qa_lt (qa_st m8 36 9 ((m8 36 9) + (1 : Int32))) (fun m9 => qa_lt (v7 + (1 : Int32)) (fun x10 => some (.inl (m9, x10))))))
def b_X7_feed_68 (m : qaM) (v1 : Int32) (v2 : Int32) (v3 : Int32) (v4 : Int32) (v5 : Int32) (v6 : Int32) (v7 : Int32) : Option ((qaM × Int32) ⊕ (Int32 × qaM)) :=
  if v1 ≤ v7 then (qa_inr (some (((m 36 9), m)))) else (if v7 = 0 then (b_X7_feed_125 m v1 v2 v3 v4 v5 v6 v7 (m 36 9) v2) else (if v7 = (1 : Int32) then (b_X7_feed_125 m v1 v2 v3 v4 v5 v6 v7 (m 36 9) v3) else (if v7 = (2 : Int32) then (b_X7_feed_125 m v1 v2 v3 v4 v5 v6 v7 (m 36 9) v4) else (if v7 = (3 : Int32) then (b_X7_feed_125 m v1 v2 v3 v4 v5 v6 v7 (m 36 9) v5) else (b_X7_feed_125 m v1 v2 v3 v4 v5 v6 v7 (m 36 9) v6)))))
def lp_X7_feed_68 (m : qaM) (v1 : Int32) (v2 : Int32) (v3 : Int32) (v4 : Int32) (v5 : Int32) (v6 : Int32) (v7 : Int32) : Option (Int32 × qaM) :=
  qa_lp (fun s => b_X7_feed_68 s.1 v1 v2 v3 v4 v5 v6 s.2) qa_F (m, v7)
def f_X7_feed (m : qaM) (v1 : Int32) (v2 : Int32) (v3 : Int32) (v4 : Int32) (v5 : Int32) (v6 : Int32) : Option (Int32 × qaM) :=
  Option.bind (f_X7_in m v1 (1 : Int32) (5 : Int32)) (fun q1 => if q1 = 0 then (some (((-2 : Int32), m))) else (Option.bind (f_X7_isByte m v2) (fun q2 => if q2 = 0 then (some (((-2 : Int32), m))) else (Option.bind (f_X7_isByte m v3) (fun q3 => if q3 = 0 then (some (((-2 : Int32), m))) else (Option.bind (f_X7_isByte m v4) (fun q4 => if q4 = 0 then (some (((-2 : Int32), m))) else (Option.bind (f_X7_isByte m v5) (fun q5 => if q5 = 0 then (some (((-2 : Int32), m))) else (Option.bind (f_X7_isByte m v6) (fun q6 => if q6 = 0 then (some (((-2 : Int32), m))) else (if ((m 36 9) + v1) ≤ (160 : Int32) then (lp_X7_feed_68 m v1 v2 v3 v4 v5 v6 (0 : Int32)) else (some (((-4 : Int32), m)))))))))))))))
def b_X7_two_52 (m : qaM) : Option (Int32) :=
  some ((1 : Int32))
def b_X7_two_102 (m : qaM) (v1 : Int32) (v2 : Int32) : Option (Int32) :=
  some ((v1 * v2))
def f_X7_two (m : qaM) (v0 : Int32) (v1 : Int32) (v2 : Int32) : Option (Int32) :=
  if v0 = (11 : Int32) then (if v1 = 0 then (if v2 = 0 then (some ((0 : Int32))) else (b_X7_two_52 m)) else (b_X7_two_52 m)) else (if v0 = (12 : Int32) then (if v1 = 0 then (some ((0 : Int32))) else (if v2 = 0 then (some ((0 : Int32))) else (some ((1 : Int32))))) else (if v0 = (13 : Int32) then (b_X7_two_102 m v1 v2) else (if v0 = (14 : Int32) then (if v2 ≤ v1 then (some ((0 : Int32))) else (some ((1 : Int32)))) else (if v0 = (15 : Int32) then (if v1 = v2 then (some ((1 : Int32))) else (some ((0 : Int32)))) else (if v0 = (16 : Int32) then (some ((v1 + v2))) else (if v0 = (17 : Int32) then (some ((v1 - v2))) else (b_X7_two_102 m v1 v2)))))))
def b_X7_says_197 (m : qaM) : Option (Int32 × qaM) :=
  some (((m 54 0), m))
def b_X7_says_191 (m : qaM) (v1 : Int32) (v2 : Int32) (v3 : Int32) : Option ((qaM × Int32 × Int32) ⊕ (Int32 × qaM)) :=
  qa_lt (v3 + (1 : Int32)) (fun x9 => some (.inl (m, v2, x9)))
def b_X7_says_93 (m : qaM) (v1 : Int32) (v2 : Int32) (v3 : Int32) (s1 : Int32) (s2 : Int32) : Option ((qaM × Int32 × Int32) ⊕ (Int32 × qaM)) :=
  qa_ck (qa_in s1 200) (qa_lt (qa_st m 54 s1.toNatClampNeg s2) (fun m7 => qa_lt (v2 + (1 : Int32)) (fun x8 => b_X7_says_191 m7 v1 x8 v3)))
def b_X7_says_66 (m : qaM) (v1 : Int32) (v2 : Int32) (v3 : Int32) (v4 : Int32) : Option ((qaM × Int32 × Int32) ⊕ (Int32 × qaM)) :=
  if (11 : Int32) ≤ v4 then (b_X7_says_93 m v1 v2 v3 v2 (v4 - (100000 : Int32))) else (qa_ck (qa_in v4 6) (b_X7_says_93 m v1 v2 v3 v2 (m 55 v4.toNatClampNeg)))
def b_X7_says_130 (m : qaM) (v1 : Int32) (v2 : Int32) (v3 : Int32) (s1 : Int32) (s2 : Int32) : Option ((qaM × Int32 × Int32) ⊕ (Int32 × qaM)) :=
  qa_ck (qa_in s1 200) (qa_lt (qa_st m 54 s1.toNatClampNeg s2) (fun m22 => b_X7_says_191 m22 v1 v2 v3))
def b_X7_says_16 (m : qaM) (v1 : Int32) (v2 : Int32) (v3 : Int32) : Option ((qaM × Int32 × Int32) ⊕ (Int32 × qaM)) :=
  qa_ck (qa_in ((((4 : Int32) * (m 36 13)) + v1) + (1 : Int32)) 24) (if (m 44 ((((4 : Int32) * (m 36 13)) + v1) + (1 : Int32)).toNatClampNeg) ≤ v3 then (qa_inr (b_X7_says_197 m)) else (qa_ck (qa_in (((200 : Int32) * (m 36 13)) + v3) 1200) (qa_lt (m 43 (((200 : Int32) * (m 36 13)) + v3).toNatClampNeg) (fun x5 => if (100000 : Int32) ≤ x5 then (b_X7_says_66 m v1 v2 v3 x5) else (if (11 : Int32) ≤ x5 then (if x5 = (13 : Int32) then (qa_ck (qa_in (v2 - (1 : Int32)) 200) (if (m 54 (v2 - (1 : Int32)).toNatClampNeg) = 0 then (b_X7_says_130 m v1 v2 v3 (v2 - (1 : Int32)) (1 : Int32)) else (b_X7_says_130 m v1 v2 v3 (v2 - (1 : Int32)) (0 : Int32)))) else (if x5 = (19 : Int32) then (qa_ck (qa_in (v2 - (1 : Int32)) 200) (qa_ck (qa_in (v2 - (1 : Int32)) 200) (qa_lt (qa_st m 54 (v2 - (1 : Int32)).toNatClampNeg (-(m 54 (v2 - (1 : Int32)).toNatClampNeg))) (fun m19 => b_X7_says_191 m19 v1 v2 v3)))) else (qa_lt (v2 + (-1 : Int32)) (fun x11 => qa_ck (qa_in (x11 - (1 : Int32)) 200) (qa_ck (qa_in x11 200) (Option.bind (f_X7_two m x5 (m 54 (x11 - (1 : Int32)).toNatClampNeg) (m 54 x11.toNatClampNeg)) (fun q14 => qa_ck (qa_in (x11 - (1 : Int32)) 200) (qa_lt (qa_st m 54 (x11 - (1 : Int32)).toNatClampNeg q14) (fun m16 => b_X7_says_191 m16 v1 x11 v3))))))))) else (b_X7_says_66 m v1 v2 v3 x5))))))
def lp_X7_says_16 (m : qaM) (v1 : Int32) (v2 : Int32) (v3 : Int32) : Option (Int32 × qaM) :=
  qa_lp (fun s => b_X7_says_16 s.1 v1 s.2.1 s.2.2) qa_F (m, v2, v3)
def f_X7_says (m : qaM) (v1 : Int32) : Option (Int32 × qaM) :=
  qa_ck (qa_in (((4 : Int32) * (m 36 13)) + v1) 24) (qa_lt (m 44 (((4 : Int32) * (m 36 13)) + v1).toNatClampNeg) (fun x2 => lp_X7_says_16 m v1 (0 : Int32) x2))
def f_X7_force (m : qaM) (v1 : Int32) : Option (Int32 × qaM) :=
  Option.bind (f_X7_in m v1 (0 : Int32) ((m 36 12) - (1 : Int32))) (fun q1 => if q1 = 0 then (some (((-2 : Int32), m))) else (qa_lt (m 36 13) (fun x2 => qa_lt (qa_st m 36 13 v1) (fun m3 => some ((x2, m3))))))
def f_X7_asksOf (m : qaM) (v1 : Int32) (v2 : Int32) (v3 : Int32) (v4 : Int32) (v5 : Int32) : Option (Int32 × qaM) :=
  qa_lt (qa_st m 55 0 v2) (fun m1 => qa_lt (qa_st m1 55 1 v3) (fun m2 => qa_lt (qa_st m2 55 2 v4) (fun m3 => qa_lt (qa_st m3 55 3 v5) (fun m4 => qa_lt (qa_st m4 55 4 (m4 36 7)) (fun m5 => qa_lt (qa_st m5 55 5 (m5 41 0)) (fun m6 => Option.bind (f_X7_says m6 v1) (fun q7 => Option.bind (f_X7_within q7.2 q7.1 (0 : Int32) (99 : Int32)) (fun q8 => some ((q8, q7.2))))))))))
def b_X7_asks_56 (m : qaM) (v1 : Int32) (v2 : Int32) (v3 : Int32) (v4 : Int32) (s0 : Int32) : Option (Int32 × qaM) :=
  if s0 = 0 then (some (((-2 : Int32), m))) else (Option.bind (f_X7_asksOf m v1 v2 v3 (v4 / (10 : Int32)) (v4 - v4 / (10 : Int32) * (10 : Int32))) (fun q2 => some ((q2.1, q2.2))))
def b_X7_asks_55 (m : qaM) (v1 : Int32) (v2 : Int32) (v3 : Int32) (v4 : Int32) : Option (Int32 × qaM) :=
  b_X7_asks_56 m v1 v2 v3 v4 (0 : Int32)
def f_X7_asks (m : qaM) (v1 : Int32) (v2 : Int32) (v3 : Int32) (v4 : Int32) : Option (Int32 × qaM) :=
  Option.bind (f_X7_in m v1 (0 : Int32) (2 : Int32)) (fun q1 => if q1 = 0 then (b_X7_asks_55 m v1 v2 v3 v4) else (Option.bind (f_X7_in m v2 (0 : Int32) (999 : Int32)) (fun q3 => if q3 = 0 then (b_X7_asks_55 m v1 v2 v3 v4) else (Option.bind (f_X7_in m v3 (0 : Int32) (999 : Int32)) (fun q4 => if q4 = 0 then (b_X7_asks_55 m v1 v2 v3 v4) else (Option.bind (f_X7_in m v4 (0 : Int32) (91 : Int32)) (fun q5 => if q5 = 0 then (b_X7_asks_55 m v1 v2 v3 v4) else (if (2 : Int32) ≤ (v4 - v4 / (10 : Int32) * (10 : Int32)) then (b_X7_asks_55 m v1 v2 v3 v4) else (b_X7_asks_56 m v1 v2 v3 v4 (1 : Int32))))))))))
def b_X7_laysAt_30 (m : qaM) (v1 : Int32) (v2 : Int32) : Option (qaM) :=
  qa_ck (qa_in v2 9) (qa_lt (qa_st m 40 v2.toNatClampNeg v1) (fun m3 => qa_lt (qa_st m3 36 5 ((m3 36 5) + (1 : Int32))) (fun m4 => some (m4))))
def b_X7_laysAt_5 (m : qaM) (v1 : Int32) (v2 : Int32) (v3 : Int32) : Option ((qaM × Int32) ⊕ (qaM)) :=
  if v3 ≤ v2 then (qa_inr (b_X7_laysAt_30 m v1 v2)) else (qa_ck (qa_in (v3 - (1 : Int32)) 9) (qa_ck (qa_in v3 9) (qa_lt (qa_st m 40 v3.toNatClampNeg (m 40 (v3 - (1 : Int32)).toNatClampNeg)) (fun m7 => qa_lt (v3 + (-1 : Int32)) (fun x8 => some (.inl (m7, x8)))))))
def lp_X7_laysAt_5 (m : qaM) (v1 : Int32) (v2 : Int32) (v3 : Int32) : Option (qaM) :=
  qa_lp (fun s => b_X7_laysAt_5 s.1 v1 v2 s.2) qa_F (m, v3)
def f_X7_laysAt (m : qaM) (v1 : Int32) (v2 : Int32) : Option (qaM) :=
  qa_lt (m 36 5) (fun x1 => lp_X7_laysAt_5 m v1 v2 x1)
def b_X7_lays_59 (m : qaM) (v1 : Int32) (v2 : Int32) : Option (qaM) :=
  Option.bind (f_X7_laysAt m v1 v2) (fun q1 => some (q1))
def b_X7_lays_19 (m : qaM) (v1 : Int32) (v2 : Int32) : Option ((Int32) ⊕ (qaM)) :=
  if (m 41 3) = (2 : Int32) then (if (m 36 5) ≤ v2 then (qa_inr (b_X7_lays_59 m v1 v2)) else (Option.bind (f_X7_within m v2 (0 : Int32) (8 : Int32)) (fun q2 => qa_ck (qa_in q2 9) (if v1 ≤ (m 40 q2.toNatClampNeg) then (qa_inr (b_X7_lays_59 m v1 v2)) else (qa_lt (v2 + (1 : Int32)) (fun x4 => some (.inl x4))))))) else (qa_inr (b_X7_lays_59 m v1 v2))
def lp_X7_lays_19 (m : qaM) (v1 : Int32) (v2 : Int32) : Option (qaM) :=
  qa_lp (fun s => b_X7_lays_19 m v1 s) qa_F v2
def b_X7_lays_18 (m : qaM) (v1 : Int32) (s0 : Int32) : Option (qaM) :=
  lp_X7_lays_19 m v1 s0
def f_X7_lays (m : qaM) (v1 : Int32) : Option (qaM) :=
  if (m 41 3) = (1 : Int32) then (b_X7_lays_18 m v1 (m 36 5)) else (b_X7_lays_18 m v1 (0 : Int32))
def b_X7_takesFrom_19 (m : qaM) (v2 : Int32) (v3 : Int32) : Option ((qaM × Int32) ⊕ (Int32 × qaM)) :=
  if (m 36 5) ≤ v3 then (qa_inr (some ((v2, m)))) else (qa_ck (qa_in (v3 + (1 : Int32)) 9) (qa_ck (qa_in v3 9) (qa_lt (qa_st m 40 v3.toNatClampNeg (m 40 (v3 + (1 : Int32)).toNatClampNeg)) (fun m6 => qa_lt (v3 + (1 : Int32)) (fun x7 => some (.inl (m6, x7)))))))
def lp_X7_takesFrom_19 (m : qaM) (v2 : Int32) (v3 : Int32) : Option (Int32 × qaM) :=
  qa_lp (fun s => b_X7_takesFrom_19 s.1 v2 s.2) qa_F (m, v3)
def f_X7_takesFrom (m : qaM) (v1 : Int32) : Option (Int32 × qaM) :=
  qa_ck (qa_in v1 9) (qa_lt (m 40 v1.toNatClampNeg) (fun x2 => qa_lt (qa_st m 36 5 ((m 36 5) - (1 : Int32))) (fun m3 => lp_X7_takesFrom_19 m3 x2 v1)))
def b_X7_placeBy_106 (m : qaM) (v1 : Int32) (v3 : Int32) (s0 : Int32) : Option ((Int32 × Int32) ⊕ (Int32)) :=
  qa_lt (v3 + (1 : Int32)) (fun x5 => some (.inl (s0, x5)))
def b_X7_placeBy_105 (m : qaM) (v1 : Int32) (v2 : Int32) (v3 : Int32) : Option ((Int32 × Int32) ⊕ (Int32)) :=
  b_X7_placeBy_106 m v1 v3 v2
def b_X7_placeBy_101 (m : qaM) (v1 : Int32) (v3 : Int32) : Option ((Int32 × Int32) ⊕ (Int32)) :=
  b_X7_placeBy_106 m v1 v3 v3
def b_X7_placeBy_75 (m : qaM) (v1 : Int32) (v2 : Int32) (v3 : Int32) (v4 : Int32) (v5 : Int32) : Option ((Int32 × Int32) ⊕ (Int32)) :=
  if v1 = (3 : Int32) then (qa_ck (qa_in (v4 + (2 : Int32)) 48) (qa_ck (qa_in (v5 + (2 : Int32)) 48) (if (m 39 (v4 + (2 : Int32)).toNatClampNeg) ≤ (m 39 (v5 + (2 : Int32)).toNatClampNeg) then (b_X7_placeBy_105 m v1 v2 v3) else (b_X7_placeBy_101 m v1 v3)))) else (b_X7_placeBy_105 m v1 v2 v3)
def b_X7_placeBy_18 (m : qaM) (v1 : Int32) (v2 : Int32) (v3 : Int32) : Option ((Int32 × Int32) ⊕ (Int32)) :=
  if (m 36 5) ≤ v3 then (qa_inr (some (v2))) else (if v1 ≤ (1 : Int32) then (qa_inr (some (v2))) else (qa_ck (qa_in v3 9) (qa_lt ((6 : Int32) * (m 40 v3.toNatClampNeg)) (fun x2 => qa_ck (qa_in v2 9) (qa_lt ((6 : Int32) * (m 40 v2.toNatClampNeg)) (fun x4 => if v1 = (2 : Int32) then (qa_ck (qa_in x2 48) (qa_ck (qa_in x4 48) (if (m 39 x2.toNatClampNeg) < (m 39 x4.toNatClampNeg) then (b_X7_placeBy_101 m v1 v3) else (b_X7_placeBy_75 m v1 v2 v3 x2 x4)))) else (b_X7_placeBy_75 m v1 v2 v3 x2 x4)))))))
def lp_X7_placeBy_18 (m : qaM) (v1 : Int32) (v2 : Int32) (v3 : Int32) : Option (Int32) :=
  qa_lp (fun s => b_X7_placeBy_18 m v1 s.1 s.2) qa_F (v2, v3)
def b_X7_placeBy_15 (m : qaM) (v1 : Int32) (s0 : Int32) : Option (Int32) :=
  lp_X7_placeBy_18 m v1 s0 (1 : Int32)
def f_X7_placeBy (m : qaM) (v1 : Int32) : Option (Int32) :=
  if v1 = (1 : Int32) then (b_X7_placeBy_15 m v1 ((m 36 5) - (1 : Int32))) else (b_X7_placeBy_15 m v1 (0 : Int32))
def b_X7_placeOf_2 (m : qaM) (v1 : Int32) (v2 : Int32) : Option ((Int32) ⊕ (Int32)) :=
  if (m 36 5) ≤ v2 then (qa_inr (some ((-1 : Int32)))) else (qa_ck (qa_in v2 9) (if (m 40 v2.toNatClampNeg) = v1 then (qa_inr (some (v2))) else (qa_lt (v2 + (1 : Int32)) (fun x2 => some (.inl x2)))))
def lp_X7_placeOf_2 (m : qaM) (v1 : Int32) (v2 : Int32) : Option (Int32) :=
  qa_lp (fun s => b_X7_placeOf_2 m v1 s) qa_F v2
def f_X7_placeOf (m : qaM) (v1 : Int32) : Option (Int32) :=
  lp_X7_placeOf_2 m v1 (0 : Int32)
def b_X7_buy_99 (m : qaM) : Option (Int32 × qaM) :=
  Option.bind (f_X7_lays m (m 36 0)) (fun q7 => qa_lt (qa_st q7 36 0 ((q7 36 0) + (1 : Int32))) (fun m8 => some ((((m8 36 0) - (1 : Int32)), m8))))
def b_X7_buy_92 (m : qaM) (v2 : Int32) (v3 : Int32) (s1 : Int32) (s2 : Int32) : Option ((qaM × Int32) ⊕ (Int32 × qaM)) :=
  qa_ck (qa_in s1 48) (qa_lt (qa_st m 39 s1.toNatClampNeg s2) (fun m10 => qa_lt (v3 + (1 : Int32)) (fun x11 => some (.inl (m10, x11)))))
def b_X7_buy_64 (m : qaM) (v2 : Int32) (v3 : Int32) : Option ((qaM × Int32) ⊕ (Int32 × qaM)) :=
  if (6 : Int32) ≤ v3 then (qa_inr (b_X7_buy_99 m)) else (if v3 = 0 then (b_X7_buy_92 m v2 v3 (((6 : Int32) * (m 36 0)) + v3) v2) else (b_X7_buy_92 m v2 v3 (((6 : Int32) * (m 36 0)) + v3) (0 : Int32)))
def lp_X7_buy_64 (m : qaM) (v2 : Int32) (v3 : Int32) : Option (Int32 × qaM) :=
  qa_lp (fun s => b_X7_buy_64 s.1 v2 s.2) qa_F (m, v3)
def f_X7_buy (m : qaM) (v1 : Int32) (v2 : Int32) : Option (Int32 × qaM) :=
  Option.bind (f_X7_in m v1 (0 : Int32) (59 : Int32)) (fun q1 => if q1 = 0 then (some (((-2 : Int32), m))) else (Option.bind (f_X7_in m v2 (0 : Int32) (999 : Int32)) (fun q2 => if q2 = 0 then (some (((-2 : Int32), m))) else (if (m 36 0) = (8 : Int32) then (some (((-4 : Int32), m))) else (qa_ck (qa_in (m 36 0) 8) (qa_lt (qa_st m 37 (m 36 0).toNatClampNeg (v1 / (10 : Int32))) (fun m4 => qa_ck (qa_in (m4 36 0) 8) (qa_lt (qa_st m4 38 (m4 36 0).toNatClampNeg (v1 - v1 / (10 : Int32) * (10 : Int32))) (fun m6 => lp_X7_buy_64 m6 v2 (0 : Int32))))))))))
def f_X7_lastsOf (m : qaM) (v1 : Int32) : Option (Int32) :=
  qa_ck (qa_in v1 8) (qa_lt (m 38 v1.toNatClampNeg) (fun x2 => qa_ck (qa_in v1 8) (qa_lt (m 37 v1.toNatClampNeg) (fun x4 => if x4 = (2 : Int32) then (some (((400 : Int32) - ((20 : Int32) * x2)))) else (if x4 = (3 : Int32) then (some (((400 : Int32) + ((10 : Int32) * x2)))) else (if x4 = (4 : Int32) then (some (((500 : Int32) - ((20 : Int32) * x2)))) else (if x4 = (5 : Int32) then (some (((150 : Int32) + ((10 : Int32) * x2)))) else (some ((400 : Int32))))))))))
def b_X7_wearsOf_156 (m : qaM) (v4 : Int32) : Option (Int32 × qaM) :=
  if 0 ≤ v4 then (some ((v4, m))) else (some (((0 : Int32), m)))
def b_X7_wearsOf_84 (m : qaM) (v3 : Int32) (v4 : Int32) : Option (Int32 × qaM) :=
  qa_lt (v4 - (v3 / (2 : Int32))) (fun x11 => b_X7_wearsOf_156 m x11)
def b_X7_wearsOf_114 (m : qaM) (s0 : Int32) (s1 : Int32) : Option (Int32 × qaM) :=
  qa_lt (s0 + s1) (fun x14 => b_X7_wearsOf_156 m x14)
def b_X7_wearsOf_141 (m : qaM) (s0 : Int32) (s1 : Int32) : Option (Int32 × qaM) :=
  qa_lt (s0 + s1) (fun x18 => b_X7_wearsOf_156 m x18)
def f_X7_wearsOf (m : qaM) (v1 : Int32) : Option (Int32 × qaM) :=
  qa_lt ((6 : Int32) * v1) (fun x1 => qa_ck (qa_in v1 8) (qa_lt (m 38 v1.toNatClampNeg) (fun x3 => qa_ck (qa_in x1 48) (qa_ck (qa_in (x1 + (2 : Int32)) 48) (qa_ck (qa_in (x1 + (3 : Int32)) 48) (Option.bind (f_X7_asksOf m (0 : Int32) (m 39 x1.toNatClampNeg) (m 39 (x1 + (2 : Int32)).toNatClampNeg) x3 (m 39 (x1 + (3 : Int32)).toNatClampNeg)) (fun q7 => qa_ck (qa_in v1 8) (qa_lt (q7.2 37 v1.toNatClampNeg) (fun x9 => if x9 = (1 : Int32) then (b_X7_wearsOf_84 q7.2 x3 q7.1) else (if x9 = (2 : Int32) then (qa_ck (qa_in x1 48) (if (q7.2 39 x1.toNatClampNeg) ≤ (200 : Int32) then (b_X7_wearsOf_114 q7.2 q7.1 (0 : Int32)) else (b_X7_wearsOf_114 q7.2 q7.1 x3))) else (if x9 = (3 : Int32) then (b_X7_wearsOf_84 q7.2 x3 q7.1) else (if x9 = (4 : Int32) then (qa_ck (qa_in x1 48) (if (q7.2 39 x1.toNatClampNeg) ≤ (200 : Int32) then (b_X7_wearsOf_141 q7.2 q7.1 (2 : Int32)) else (b_X7_wearsOf_141 q7.2 q7.1 (x3 + (2 : Int32))))) else (if x9 = (5 : Int32) then (qa_lt (q7.1 / (2 : Int32)) (fun x20 => b_X7_wearsOf_156 q7.2 x20)) else (b_X7_wearsOf_156 q7.2 q7.1))))))))))))))
def f_X7_yellowsOf (m : qaM) (v1 : Int32) : Option (Int32 × qaM) :=
  qa_lt ((6 : Int32) * v1) (fun x1 => qa_ck (qa_in x1 48) (qa_ck (qa_in (x1 + (2 : Int32)) 48) (qa_ck (qa_in v1 8) (qa_ck (qa_in (x1 + (3 : Int32)) 48) (Option.bind (f_X7_asksOf m (1 : Int32) (m 39 x1.toNatClampNeg) (m 39 (x1 + (2 : Int32)).toNatClampNeg) (m 38 v1.toNatClampNeg) (m 39 (x1 + (3 : Int32)).toNatClampNeg)) (fun q6 => qa_ck (qa_in v1 8) (if (q6.2 37 v1.toNatClampNeg) = (1 : Int32) then (some (((q6.1 + (1 : Int32)), q6.2))) else (qa_ck (qa_in v1 8) (if (q6.2 37 v1.toNatClampNeg) = (3 : Int32) then (qa_ck (qa_in (x1 + (2 : Int32)) 48) (if (q6.2 39 (x1 + (2 : Int32)).toNatClampNeg) ≤ (10 : Int32) then (some (((q6.1 + (1 : Int32)), q6.2))) else (some ((((2 : Int32) * (q6.1 + (1 : Int32))), q6.2))))) else (some ((q6.1, q6.2))))))))))))
def b_X7_told_74 (m : qaM) (v1 : Int32) (v2 : Int32) : Option (Int32) :=
  qa_ck (qa_in ((((6 : Int32) * v1) + v2) - (2 : Int32)) 48) (some ((m 39 ((((6 : Int32) * v1) + v2) - (2 : Int32)).toNatClampNeg)))
def f_X7_told (m : qaM) (v1 : Int32) (v2 : Int32) : Option (Int32) :=
  Option.bind (f_X7_isLinen m v1) (fun q1 => if q1 = 0 then (some ((-5 : Int32))) else (if v2 = (0 : Int32) then (qa_ck (qa_in v1 8) (some ((m 37 v1.toNatClampNeg)))) else (if v2 = (1 : Int32) then (qa_ck (qa_in v1 8) (some ((m 38 v1.toNatClampNeg)))) else (if v2 = (2 : Int32) then (b_X7_told_74 m v1 v2) else (if v2 = (3 : Int32) then (b_X7_told_74 m v1 v2) else (if v2 = (4 : Int32) then (b_X7_told_74 m v1 v2) else (if v2 = (5 : Int32) then (b_X7_told_74 m v1 v2) else (if v2 = (6 : Int32) then (qa_ck (qa_in (((6 : Int32) * v1) + (5 : Int32)) 48) (if (m 39 (((6 : Int32) * v1) + (5 : Int32)).toNatClampNeg) = (1 : Int32) then (some ((-1 : Int32))) else (qa_ck (qa_in (((6 : Int32) * v1) + (4 : Int32)) 48) (some ((m 39 (((6 : Int32) * v1) + (4 : Int32)).toNatClampNeg)))))) else (if v2 = (7 : Int32) then (Option.bind (f_X7_lastsOf m v1) (fun q15 => some (q15))) else (some ((-7 : Int32))))))))))))
def b_X7_put_35 (m : qaM) (v1 : Int32) (v2 : Int32) (v3 : Int32) (s0 : Int32) (s1 : Int32) (s2 : Int32) : Option (Int32 × qaM) :=
  Option.bind (f_X7_in m s0 s1 s2) (fun q3 => if q3 = 0 then (some (((-7 : Int32), m))) else (qa_ck (qa_in (((6 : Int32) * v1) + v2) 48) (qa_lt (m 39 (((6 : Int32) * v1) + v2).toNatClampNeg) (fun x5 => qa_ck (qa_in (((6 : Int32) * v1) + v2) 48) (qa_lt (qa_st m 39 (((6 : Int32) * v1) + v2).toNatClampNeg v3) (fun m7 => some ((x5, m7))))))))
def f_X7_put (m : qaM) (v1 : Int32) (v2 : Int32) (v3 : Int32) : Option (Int32 × qaM) :=
  Option.bind (f_X7_isLinen m v1) (fun q1 => if q1 = 0 then (some (((-5 : Int32), m))) else (Option.bind (f_X7_in m v2 (0 : Int32) (2 : Int32)) (fun q2 => if q2 = 0 then (some (((-7 : Int32), m))) else (if v2 = (1 : Int32) then (b_X7_put_35 m v1 v2 v3 v3 (0 : Int32) (99 : Int32)) else (b_X7_put_35 m v1 v2 v3 v3 (0 : Int32) (999 : Int32))))))
def f_X7_lies (m : qaM) (v1 : Int32) : Option (Int32) :=
  Option.bind (f_X7_in m v1 (0 : Int32) ((m 36 5) - (1 : Int32))) (fun q1 => if q1 = 0 then (some ((-6 : Int32))) else (qa_ck (qa_in v1 9) (some ((m 40 v1.toNatClampNeg)))))
def f_X7_mayTurn (m : qaM) (v1 : Int32) : Option (Int32) :=
  qa_ck (qa_in (((6 : Int32) * v1) + (3 : Int32)) 48) (if (m 39 (((6 : Int32) * v1) + (3 : Int32)).toNatClampNeg) = 0 then (Option.bind (f_X7_placeOf m v1) (fun q2 => if q2 = (-1 : Int32) then (some ((0 : Int32))) else (some ((1 : Int32))))) else (some ((0 : Int32))))
def f_X7_turns (m : qaM) (v1 : Int32) : Option (qaM) :=
  qa_lt ((6 : Int32) * v1) (fun x1 => qa_ck (qa_in x1 48) (qa_ck (qa_in x1 48) (qa_lt (qa_st m 39 x1.toNatClampNeg ((m 39 x1.toNatClampNeg) / (2 : Int32))) (fun m4 => qa_ck (qa_in (((6 : Int32) * v1) + (3 : Int32)) 48) (qa_lt (qa_st m4 39 (((6 : Int32) * v1) + (3 : Int32)).toNatClampNeg (1 : Int32)) (fun m6 => some (m6)))))))
def f_X7_turn (m : qaM) (v1 : Int32) : Option (Int32 × qaM) :=
  Option.bind (f_X7_isLinen m v1) (fun q1 => if q1 = 0 then (some (((-5 : Int32), m))) else (Option.bind (f_X7_mayTurn m v1) (fun q2 => if q2 = 0 then (some (((-3 : Int32), m))) else (Option.bind (f_X7_turns m v1) (fun q3 => qa_ck (qa_in ((6 : Int32) * v1) 48) (some (((q3 39 ((6 : Int32) * v1).toNatClampNeg), q3))))))))
def f_X7_next (m : qaM) : Option (Int32) :=
  if (m 36 5) = 0 then (some ((-1 : Int32))) else (Option.bind (f_X7_placeBy m (m 41 2)) (fun q1 => qa_ck (qa_in q1 9) (some ((m 40 q1.toNatClampNeg)))))
def f_X7_areWrong (m : qaM) (v1 : Int32) (v2 : Int32) (v3 : Int32) : Option (Int32) :=
  if v1 = 0 then (qa_ck (qa_in ((6 : Int32) * v3) 48) (qa_ck (qa_in ((6 : Int32) * v2) 48) (if (m 39 ((6 : Int32) * v2).toNatClampNeg) ≤ (m 39 ((6 : Int32) * v3).toNatClampNeg) then (some ((0 : Int32))) else (some ((1 : Int32)))))) else (if v1 = (1 : Int32) then (qa_ck (qa_in ((6 : Int32) * v3) 48) (qa_ck (qa_in ((6 : Int32) * v2) 48) (if (m 39 ((6 : Int32) * v3).toNatClampNeg) ≤ (m 39 ((6 : Int32) * v2).toNatClampNeg) then (some ((0 : Int32))) else (some ((1 : Int32)))))) else (if v2 ≤ v3 then (some ((0 : Int32))) else (some ((1 : Int32)))))
def b_X7_turnsOver_2 (m : qaM) (v1 : Int32) : Option ((qaM × Int32) ⊕ (qaM)) :=
  if ((m 36 5) / (2 : Int32)) ≤ v1 then (qa_inr (some (m))) else (qa_ck (qa_in v1 9) (qa_lt (m 40 v1.toNatClampNeg) (fun x2 => qa_ck (qa_in (((m 36 5) - (1 : Int32)) - v1) 9) (qa_ck (qa_in v1 9) (qa_lt (qa_st m 40 v1.toNatClampNeg (m 40 (((m 36 5) - (1 : Int32)) - v1).toNatClampNeg)) (fun m5 => qa_ck (qa_in (((m5 36 5) - (1 : Int32)) - v1) 9) (qa_lt (qa_st m5 40 (((m5 36 5) - (1 : Int32)) - v1).toNatClampNeg x2) (fun m7 => qa_lt (v1 + (1 : Int32)) (fun x8 => some (.inl (m7, x8)))))))))))
def lp_X7_turnsOver_2 (m : qaM) (v1 : Int32) : Option (qaM) :=
  qa_lp (fun s => b_X7_turnsOver_2 s.1 s.2) qa_F (m, v1)
def f_X7_turnsOver (m : qaM) : Option (qaM) :=
  lp_X7_turnsOver_2 m (0 : Int32)
def b_X7_pileUp_113 (m : qaM) : Option (Int32 × qaM) :=
  if (m 36 5) = 0 then (some (((-1 : Int32), m))) else (some (((m 40 0), m)))
def b_X7_pileUp_107 (m : qaM) (v1 : Int32) (v2 : Int32) : Option ((qaM × Int32) ⊕ (Int32 × qaM)) :=
  qa_lt (v2 + (1 : Int32)) (fun x3 => some (.inl (m, x3)))
def b_X7_pileUp_101 (m : qaM) (v1 : Int32) (v2 : Int32) (v3 : Int32) : Option ((qaM × Int32) ⊕ ((qaM × Int32) ⊕ (Int32 × qaM))) :=
  qa_lt (v3 + (-1 : Int32)) (fun x7 => some (.inl (m, x7)))
def b_X7_pileUp_43 (m : qaM) (v1 : Int32) (v2 : Int32) (v3 : Int32) : Option ((qaM × Int32) ⊕ ((qaM × Int32) ⊕ (Int32 × qaM))) :=
  if v3 ≤ 0 then (qa_inr (b_X7_pileUp_107 m v1 v2)) else (qa_ck (qa_in (v3 - (1 : Int32)) 9) (qa_ck (qa_in v3 9) (Option.bind (f_X7_areWrong m v1 (m 40 (v3 - (1 : Int32)).toNatClampNeg) (m 40 v3.toNatClampNeg)) (fun q6 => if q6 = 0 then (b_X7_pileUp_101 m v1 v2 v3) else (qa_ck (qa_in v3 9) (qa_lt (m 40 v3.toNatClampNeg) (fun x9 => qa_ck (qa_in (v3 - (1 : Int32)) 9) (qa_ck (qa_in v3 9) (qa_lt (qa_st m 40 v3.toNatClampNeg (m 40 (v3 - (1 : Int32)).toNatClampNeg)) (fun m12 => qa_ck (qa_in (v3 - (1 : Int32)) 9) (qa_lt (qa_st m12 40 (v3 - (1 : Int32)).toNatClampNeg x9) (fun m14 => b_X7_pileUp_101 m14 v1 v2 v3))))))))))))
def lp_X7_pileUp_43 (m : qaM) (v1 : Int32) (v2 : Int32) (v3 : Int32) : Option ((qaM × Int32) ⊕ (Int32 × qaM)) :=
  qa_lp (fun s => b_X7_pileUp_43 s.1 v1 v2 s.2) qa_F (m, v3)
def b_X7_pileUp_23 (m : qaM) (v1 : Int32) (v2 : Int32) : Option ((qaM × Int32) ⊕ (Int32 × qaM)) :=
  if (m 36 5) ≤ v2 then (qa_inr (b_X7_pileUp_113 m)) else (if (3 : Int32) ≤ v1 then (qa_inr (b_X7_pileUp_113 m)) else (qa_lt ((m 36 5) - (1 : Int32)) (fun x2 => lp_X7_pileUp_43 m v1 v2 x2)))
def lp_X7_pileUp_23 (m : qaM) (v1 : Int32) (v2 : Int32) : Option (Int32 × qaM) :=
  qa_lp (fun s => b_X7_pileUp_23 s.1 v1 s.2) qa_F (m, v2)
def b_X7_pileUp_21 (m : qaM) (v1 : Int32) : Option (Int32 × qaM) :=
  lp_X7_pileUp_23 m v1 (1 : Int32)
def f_X7_pileUp (m : qaM) (v1 : Int32) : Option (Int32 × qaM) :=
  Option.bind (f_X7_in m v1 (0 : Int32) (3 : Int32)) (fun q1 => if q1 = 0 then (some (((-2 : Int32), m))) else (if v1 = (3 : Int32) then (Option.bind (f_X7_turnsOver m) (fun q15 => b_X7_pileUp_21 q15 v1)) else (b_X7_pileUp_21 m v1)))
def b_X7_goesToCloths_36 (m : qaM) (s1 : Int32) : Option (qaM) :=
  qa_lt (qa_st m 36 39 s1) (fun m5 => some (m5))
def f_X7_goesToCloths (m : qaM) (v1 : Int32) (v2 : Int32) : Option (qaM) :=
  qa_ck (qa_in (((6 : Int32) * v1) + (5 : Int32)) 48) (qa_lt (qa_st m 39 (((6 : Int32) * v1) + (5 : Int32)).toNatClampNeg (1 : Int32)) (fun m2 => qa_ck (qa_in v1 8) (qa_lt (qa_st m2 56 v1.toNatClampNeg v2) (fun m4 => if (m4 36 39) = (-1 : Int32) then (b_X7_goesToCloths_36 m4 v2) else (b_X7_goesToCloths_36 m4 (m4 36 39))))))
def b_X7_comesBack_61 (m : qaM) (v1 : Int32) : Option ((qaM × Int32) ⊕ (qaM)) :=
  qa_lt (v1 + (1 : Int32)) (fun x3 => some (.inl (m, x3)))
def b_X7_comesBack_2 (m : qaM) (v1 : Int32) : Option ((qaM × Int32) ⊕ (qaM)) :=
  if (m 36 0) ≤ v1 then (qa_inr (some (m))) else (qa_lt (((6 : Int32) * v1) + (4 : Int32)) (fun x1 => qa_ck (qa_in x1 48) (if (m 39 x1.toNatClampNeg) ≤ 0 then (b_X7_comesBack_61 m v1) else (qa_ck (qa_in (x1 + (1 : Int32)) 48) (if (m 39 (x1 + (1 : Int32)).toNatClampNeg) = 0 then (qa_ck (qa_in x1 48) (qa_ck (qa_in x1 48) (qa_lt (qa_st m 39 x1.toNatClampNeg ((m 39 x1.toNatClampNeg) - (1 : Int32))) (fun m7 => qa_ck (qa_in x1 48) (if (m7 39 x1.toNatClampNeg) = 0 then (Option.bind (f_X7_lays m7 v1) (fun q9 => b_X7_comesBack_61 q9 v1)) else (b_X7_comesBack_61 m7 v1)))))) else (b_X7_comesBack_61 m v1))))))
def lp_X7_comesBack_2 (m : qaM) (v1 : Int32) : Option (qaM) :=
  qa_lp (fun s => b_X7_comesBack_2 s.1 s.2) qa_F (m, v1)
def f_X7_comesBack (m : qaM) : Option (qaM) :=
  lp_X7_comesBack_2 m (0 : Int32)
def b_X7_takesSo_45 (m : qaM) (v1 : Int32) (v2 : Int32) (v3 : Int32) (v4 : Int32) : Option ((qaM × Int32 × Int32) ⊕ (Int32 × qaM)) :=
  qa_lt (v4 + (1 : Int32)) (fun x4 => some (.inl (m, v3, x4)))
def b_X7_takesSo_5 (m : qaM) (v1 : Int32) (v2 : Int32) (v3 : Int32) (v4 : Int32) : Option ((qaM × Int32 × Int32) ⊕ (Int32 × qaM)) :=
  if v1 ≤ v4 then (qa_inr (some ((v3, m)))) else (if (m 36 5) = 0 then (qa_lt (qa_st m 36 37 ((m 36 37) + (1 : Int32))) (fun m5 => b_X7_takesSo_45 m5 v1 v2 v3 v4)) else (Option.bind (f_X7_placeBy m v2) (fun q1 => Option.bind (f_X7_takesFrom m q1) (fun q2 => qa_lt (v3 ||| ((1 : Int32) <<< (q2.1 &&& 31))) (fun x3 => b_X7_takesSo_45 q2.2 v1 v2 x3 v4)))))
def lp_X7_takesSo_5 (m : qaM) (v1 : Int32) (v2 : Int32) (v3 : Int32) (v4 : Int32) : Option (Int32 × qaM) :=
  qa_lp (fun s => b_X7_takesSo_5 s.1 v1 v2 s.2.1 s.2.2) qa_F (m, v3, v4)
def f_X7_takesSo (m : qaM) (v1 : Int32) (v2 : Int32) : Option (Int32 × qaM) :=
  lp_X7_takesSo_5 m v1 v2 (0 : Int32) (0 : Int32)
def b_X7_lie_2 (m : qaM) (v1 : Int32) : Option ((qaM × Int32) ⊕ (qaM)) :=
  if (m 36 5) ≤ v1 then (qa_inr (some (m))) else (qa_ck (qa_in v1 9) (qa_lt ((6 : Int32) * (m 40 v1.toNatClampNeg)) (fun x2 => qa_ck (qa_in (x2 + (1 : Int32)) 48) (qa_ck (qa_in v1 9) (Option.bind (f_X7_yellowsOf m (m 40 v1.toNatClampNeg)) (fun q5 => Option.bind (f_X7_within q5.2 ((m 39 (x2 + (1 : Int32)).toNatClampNeg) + q5.1) (0 : Int32) (99 : Int32)) (fun q6 => qa_ck (qa_in (x2 + (1 : Int32)) 48) (qa_lt (qa_st q5.2 39 (x2 + (1 : Int32)).toNatClampNeg q6) (fun m8 => qa_ck (qa_in (x2 + (2 : Int32)) 48) (Option.bind (f_X7_within m8 ((m8 39 (x2 + (2 : Int32)).toNatClampNeg) + (1 : Int32)) (0 : Int32) (999 : Int32)) (fun q10 => qa_ck (qa_in (x2 + (2 : Int32)) 48) (qa_lt (qa_st m8 39 (x2 + (2 : Int32)).toNatClampNeg q10) (fun m12 => qa_lt (v1 + (1 : Int32)) (fun x13 => some (.inl (m12, x13))))))))))))))))
def lp_X7_lie_2 (m : qaM) (v1 : Int32) : Option (qaM) :=
  qa_lp (fun s => b_X7_lie_2 s.1 s.2) qa_F (m, v1)
def f_X7_lie (m : qaM) : Option (qaM) :=
  lp_X7_lie_2 m (0 : Int32)
def b_X7_washes_115 (m : qaM) (v1 : Int32) (v2 : Int32) (v3 : Int32) : Option ((qaM × Int32) ⊕ (qaM)) :=
  qa_lt (v3 + (1 : Int32)) (fun x1 => some (.inl (m, x1)))
def b_X7_washes_2 (m : qaM) (v1 : Int32) (v2 : Int32) (v3 : Int32) : Option ((qaM × Int32) ⊕ (qaM)) :=
  if (m 36 0) ≤ v3 then (qa_inr (some (m))) else (if ((v1 >>> (v3 &&& 31)) &&& (1 : Int32)) = (1 : Int32) then (qa_lt ((6 : Int32) * v3) (fun x2 => qa_ck (qa_in x2 48) (Option.bind (f_X7_wearsOf m v3) (fun q4 => Option.bind (f_X7_within q4.2 ((m 39 x2.toNatClampNeg) + q4.1) (0 : Int32) (999 : Int32)) (fun q5 => qa_ck (qa_in x2 48) (qa_lt (qa_st q4.2 39 x2.toNatClampNeg q5) (fun m7 => qa_ck (qa_in (x2 + (2 : Int32)) 48) (qa_lt (qa_st m7 39 (x2 + (2 : Int32)).toNatClampNeg (0 : Int32)) (fun m9 => qa_ck (qa_in (x2 + (4 : Int32)) 48) (qa_lt (qa_st m9 39 (x2 + (4 : Int32)).toNatClampNeg (m9 41 1)) (fun m11 => qa_ck (qa_in x2 48) (Option.bind (f_X7_lastsOf m11 v3) (fun q13 => if (m11 39 x2.toNatClampNeg) < q13 then (if (m11 41 1) = 0 then (Option.bind (f_X7_lays m11 v3) (fun q14 => b_X7_washes_115 q14 v1 v2 v3)) else (b_X7_washes_115 m11 v1 v2 v3)) else (Option.bind (f_X7_goesToCloths m11 v3 v2) (fun q15 => b_X7_washes_115 q15 v1 v2 v3))))))))))))))) else (b_X7_washes_115 m v1 v2 v3))
def lp_X7_washes_2 (m : qaM) (v1 : Int32) (v2 : Int32) (v3 : Int32) : Option (qaM) :=
  qa_lp (fun s => b_X7_washes_2 s.1 v1 v2 s.2) qa_F (m, v3)
def f_X7_washes (m : qaM) (v1 : Int32) (v2 : Int32) : Option (qaM) :=
  lp_X7_washes_2 m v1 v2 (0 : Int32)
def b_X7_sorts_42 (m : qaM) (v1 : Int32) (v2 : Int32) : Option ((qaM × Int32) ⊕ (qaM)) :=
  qa_lt (v2 + (-1 : Int32)) (fun x4 => some (.inl (m, x4)))
def b_X7_sorts_7 (m : qaM) (v1 : Int32) (v2 : Int32) : Option ((qaM × Int32) ⊕ (qaM)) :=
  if v2 < 0 then (qa_inr (some (m))) else (qa_ck (qa_in v2 9) (qa_ck (qa_in (((6 : Int32) * (m 40 v2.toNatClampNeg)) + (1 : Int32)) 48) (if (m 39 (((6 : Int32) * (m 40 v2.toNatClampNeg)) + (1 : Int32)).toNatClampNeg) = (99 : Int32) then (Option.bind (f_X7_takesFrom m v2) (fun q5 => Option.bind (f_X7_goesToCloths q5.2 q5.1 v1) (fun q6 => b_X7_sorts_42 q6 v1 v2))) else (b_X7_sorts_42 m v1 v2))))
def lp_X7_sorts_7 (m : qaM) (v1 : Int32) (v2 : Int32) : Option (qaM) :=
  qa_lp (fun s => b_X7_sorts_7 s.1 v1 s.2) qa_F (m, v2)
def f_X7_sorts (m : qaM) (v1 : Int32) : Option (qaM) :=
  qa_lt ((m 36 5) - (1 : Int32)) (fun x1 => lp_X7_sorts_7 m v1 x1)
def f_X7_weekBy (m : qaM) (v1 : Int32) (v2 : Int32) (v3 : Int32) : Option (qaM) :=
  Option.bind (f_X7_comesBack m) (fun q1 => Option.bind (f_X7_takesSo q1 v2 v3) (fun q2 => qa_lt (qa_st q2.2 36 38 ((q2.2 36 38) ||| q2.1)) (fun m3 => Option.bind (f_X7_lie m3) (fun q4 => Option.bind (f_X7_washes q4 q2.1 v1) (fun q5 => Option.bind (f_X7_sorts q5 v1) (fun q6 => qa_lt (qa_st q6 36 7 ((q6 36 7) + (1 : Int32))) (fun m7 => some (m7))))))))
def b_X7_begins_17 (m : qaM) (v1 : Int32) : Option ((qaM × Int32) ⊕ (qaM)) :=
  if (8 : Int32) ≤ v1 then (qa_inr (some (m))) else (qa_ck (qa_in v1 8) (qa_lt (qa_st m 56 v1.toNatClampNeg (-1 : Int32)) (fun m5 => qa_lt (v1 + (1 : Int32)) (fun x6 => some (.inl (m5, x6))))))
def lp_X7_begins_17 (m : qaM) (v1 : Int32) : Option (qaM) :=
  qa_lp (fun s => b_X7_begins_17 s.1 s.2) qa_F (m, v1)
def f_X7_begins (m : qaM) : Option (qaM) :=
  qa_lt (qa_st m 36 37 (0 : Int32)) (fun m1 => qa_lt (qa_st m1 36 38 (0 : Int32)) (fun m2 => qa_lt (qa_st m2 36 39 (-1 : Int32)) (fun m3 => lp_X7_begins_17 m3 (0 : Int32))))
def f_X7_live (m : qaM) : Option (Int32 × qaM) :=
  if (m 36 7) = (999 : Int32) then (some (((-4 : Int32), m))) else (Option.bind (f_X7_begins m) (fun q1 => Option.bind (f_X7_weekBy q1 (0 : Int32) (q1 41 0) (q1 41 2)) (fun q2 => some (((q2 36 37), q2)))))
def b_X7_keeps_52 (m : qaM) : Option (qaM) :=
  qa_lt (qa_st m 36 43 (m 36 5)) (fun m1 => qa_lt (qa_st m1 36 44 (m1 36 7)) (fun m2 => Option.bind (f_X7_begins m2) (fun q3 => some (q3))))
def b_X7_keeps_28 (m : qaM) (v1 : Int32) : Option ((qaM × Int32) ⊕ (qaM)) :=
  if (9 : Int32) ≤ v1 then (qa_inr (b_X7_keeps_52 m)) else (qa_ck (qa_in v1 9) (qa_ck (qa_in v1 9) (qa_lt (qa_st m 58 v1.toNatClampNeg (m 40 v1.toNatClampNeg)) (fun m6 => qa_lt (v1 + (1 : Int32)) (fun x7 => some (.inl (m6, x7)))))))
def lp_X7_keeps_28 (m : qaM) (v1 : Int32) : Option (qaM) :=
  qa_lp (fun s => b_X7_keeps_28 s.1 s.2) qa_F (m, v1)
def b_X7_keeps_26 (m : qaM) : Option (qaM) :=
  lp_X7_keeps_28 m (0 : Int32)
def b_X7_keeps_2 (m : qaM) (v1 : Int32) : Option ((qaM × Int32) ⊕ (qaM)) :=
  if (48 : Int32) ≤ v1 then (qa_inr (b_X7_keeps_26 m)) else (qa_ck (qa_in v1 48) (qa_ck (qa_in v1 48) (qa_lt (qa_st m 57 v1.toNatClampNeg (m 39 v1.toNatClampNeg)) (fun m10 => qa_lt (v1 + (1 : Int32)) (fun x11 => some (.inl (m10, x11)))))))
def lp_X7_keeps_2 (m : qaM) (v1 : Int32) : Option (qaM) :=
  qa_lp (fun s => b_X7_keeps_2 s.1 s.2) qa_F (m, v1)
def f_X7_keeps (m : qaM) : Option (qaM) :=
  lp_X7_keeps_2 m (0 : Int32)
def b_X7_laysBack_64 (m : qaM) : Option (qaM) :=
  qa_lt (qa_st m 36 5 (m 36 43)) (fun m1 => qa_lt (qa_st m1 36 7 (m1 36 44)) (fun m2 => some (m2)))
def b_X7_laysBack_40 (m : qaM) (v1 : Int32) : Option ((qaM × Int32) ⊕ (qaM)) :=
  if (9 : Int32) ≤ v1 then (qa_inr (b_X7_laysBack_64 m)) else (qa_ck (qa_in v1 9) (qa_ck (qa_in v1 9) (qa_lt (qa_st m 40 v1.toNatClampNeg (m 58 v1.toNatClampNeg)) (fun m5 => qa_lt (v1 + (1 : Int32)) (fun x6 => some (.inl (m5, x6)))))))
def lp_X7_laysBack_40 (m : qaM) (v1 : Int32) : Option (qaM) :=
  qa_lp (fun s => b_X7_laysBack_40 s.1 s.2) qa_F (m, v1)
def b_X7_laysBack_38 (m : qaM) : Option (qaM) :=
  lp_X7_laysBack_40 m (0 : Int32)
def b_X7_laysBack_2 (m : qaM) (v1 : Int32) : Option ((qaM × Int32) ⊕ (qaM)) :=
  if (48 : Int32) ≤ v1 then (qa_inr (b_X7_laysBack_38 m)) else (qa_ck (qa_in v1 48) (qa_ck (qa_in v1 48) (qa_lt (qa_st m 59 v1.toNatClampNeg (m 39 v1.toNatClampNeg)) (fun m9 => qa_ck (qa_in v1 48) (qa_ck (qa_in v1 48) (qa_lt (qa_st m9 39 v1.toNatClampNeg (m9 57 v1.toNatClampNeg)) (fun m12 => qa_lt (v1 + (1 : Int32)) (fun x13 => some (.inl (m12, x13))))))))))
def lp_X7_laysBack_2 (m : qaM) (v1 : Int32) : Option (qaM) :=
  qa_lp (fun s => b_X7_laysBack_2 s.1 s.2) qa_F (m, v1)
def f_X7_laysBack (m : qaM) : Option (qaM) :=
  lp_X7_laysBack_2 m (0 : Int32)
def b_X7_goes_34 (m : qaM) : Option (qaM) :=
  Option.bind (f_X7_laysBack m) (fun q2 => some (q2))
def b_X7_goes_6 (m : qaM) (v1 : Int32) (v2 : Int32) : Option ((qaM × Int32) ⊕ (qaM)) :=
  if v1 ≤ v2 then (qa_inr (b_X7_goes_34 m)) else (Option.bind (f_X7_weekBy m v2 (m 41 0) (m 41 2)) (fun q3 => qa_lt (v2 + (1 : Int32)) (fun x4 => some (.inl (q3, x4)))))
def lp_X7_goes_6 (m : qaM) (v1 : Int32) (v2 : Int32) : Option (qaM) :=
  qa_lp (fun s => b_X7_goes_6 s.1 v1 s.2) qa_F (m, v2)
def f_X7_goes (m : qaM) (v1 : Int32) : Option (qaM) :=
  Option.bind (f_X7_keeps m) (fun q1 => lp_X7_goes_6 q1 v1 (0 : Int32))
def b_X7_leftMany_4 (m : qaM) (v1 : Int32) (v2 : Int32) : Option ((Int32 × Int32) ⊕ (Int32)) :=
  if (m 36 0) ≤ v2 then (qa_inr (some (v1))) else (qa_ck (qa_in (((6 : Int32) * v2) + (5 : Int32)) 48) (qa_lt (v1 + ((1 : Int32) - (m 59 (((6 : Int32) * v2) + (5 : Int32)).toNatClampNeg))) (fun x2 => qa_lt (v2 + (1 : Int32)) (fun x3 => some (.inl (x2, x3))))))
def lp_X7_leftMany_4 (m : qaM) (v1 : Int32) (v2 : Int32) : Option (Int32) :=
  qa_lp (fun s => b_X7_leftMany_4 m s.1 s.2) qa_F (v1, v2)
def f_X7_leftMany (m : qaM) : Option (Int32) :=
  lp_X7_leftMany_4 m (0 : Int32) (0 : Int32)
def b_X7_mostWorn_38 (m : qaM) (v2 : Int32) (s0 : Int32) : Option ((Int32 × Int32) ⊕ (Int32)) :=
  qa_lt (v2 + (1 : Int32)) (fun x2 => some (.inl (s0, x2)))
def b_X7_mostWorn_4 (m : qaM) (v1 : Int32) (v2 : Int32) : Option ((Int32 × Int32) ⊕ (Int32)) :=
  if (m 36 0) ≤ v2 then (qa_inr (some (v1))) else (qa_ck (qa_in ((6 : Int32) * v2) 48) (if (m 59 ((6 : Int32) * v2).toNatClampNeg) ≤ v1 then (b_X7_mostWorn_38 m v2 v1) else (qa_ck (qa_in ((6 : Int32) * v2) 48) (b_X7_mostWorn_38 m v2 (m 59 ((6 : Int32) * v2).toNatClampNeg)))))
def lp_X7_mostWorn_4 (m : qaM) (v1 : Int32) (v2 : Int32) : Option (Int32) :=
  qa_lp (fun s => b_X7_mostWorn_4 m s.1 s.2) qa_F (v1, v2)
def f_X7_mostWorn (m : qaM) : Option (Int32) :=
  lp_X7_mostWorn_4 m (-1 : Int32) (0 : Int32)
def f_X7_run (m : qaM) (v1 : Int32) (v2 : Int32) : Option (Int32 × qaM) :=
  Option.bind (f_X7_areWeeks m v1) (fun q1 => if q1 = 0 then (some (((-2 : Int32), m))) else (Option.bind (f_X7_in m v2 (0 : Int32) (4 : Int32)) (fun q2 => if q2 = 0 then (some (((-2 : Int32), m))) else (Option.bind (f_X7_goes m v1) (fun q3 => if v2 = 0 then (Option.bind (f_X7_leftMany q3) (fun q5 => some ((q5, q3)))) else (if v2 = (1 : Int32) then (some (((q3 36 39), q3))) else (if v2 = (2 : Int32) then (some (((q3 36 37), q3))) else (if v2 = (3 : Int32) then (some (((q3 36 38), q3))) else (Option.bind (f_X7_mostWorn q3) (fun q4 => some ((q4, q3))))))))))))
def f_X7_then (m : qaM) (v1 : Int32) (v2 : Int32) (v3 : Int32) : Option (Int32 × qaM) :=
  Option.bind (f_X7_isLinen m v1) (fun q1 => if q1 = 0 then (some (((-5 : Int32), m))) else (Option.bind (f_X7_areWeeks m v2) (fun q2 => if q2 = 0 then (some (((-7 : Int32), m))) else (Option.bind (f_X7_in m v3 (0 : Int32) (1 : Int32)) (fun q3 => if q3 = 0 then (some (((-7 : Int32), m))) else (Option.bind (f_X7_goes m v2) (fun q4 => qa_ck (qa_in (((6 : Int32) * v1) + v3) 48) (some (((q4 59 (((6 : Int32) * v1) + v3).toNatClampNeg), q4))))))))))
def f_X7_cost (m : qaM) (v1 : Int32) : Option (Int32 × qaM) :=
  Option.bind (f_X7_areWeeks m v1) (fun q1 => if q1 = 0 then (some (((-2 : Int32), m))) else (Option.bind (f_X7_goes m v1) (fun q2 => Option.bind (f_X7_asksOf q2 (2 : Int32) (0 : Int32) (0 : Int32) (0 : Int32) (0 : Int32)) (fun q3 => some ((((q2 36 37) * q3.1), q3.2))))))
def b_X7_rules_215 (m : qaM) (v3 : Int32) (v4 : Int32) (v5 : Int32) : Option (Int32 × qaM) :=
  qa_lt (qa_st m 41 2 v3) (fun m5 => qa_lt (qa_st m5 41 3 v4) (fun m6 => some ((v5, m6))))
def b_X7_rules_207 (m : qaM) (v1 : Int32) (v2 : Int32) (v3 : Int32) (v4 : Int32) (v5 : Int32) (v6 : Int32) (v8 : Int32) (s0 : Int32) : Option ((qaM × Int32 × Int32 × Int32 × Int32) ⊕ (Int32 × qaM)) :=
  qa_lt (v8 + (1 : Int32)) (fun x10 => some (.inl (m, v5, v6, s0, x10)))
def b_X7_rules_193 (m : qaM) (v1 : Int32) (v2 : Int32) (v3 : Int32) (v4 : Int32) (v5 : Int32) (v7 : Int32) (v8 : Int32) (v10 : Int32) (v11 : Int32) (s0 : Int32) : Option ((qaM × Int32 × Int32 × Int32 × Int32) ⊕ (Int32 × qaM)) :=
  if v11 = 0 then (b_X7_rules_207 m v1 v2 v3 v4 v5 s0 v8 v7) else (b_X7_rules_207 m v1 v2 v3 v4 v5 s0 v8 v10)
def b_X7_rules_179 (m : qaM) (v1 : Int32) (v2 : Int32) (v3 : Int32) (v4 : Int32) (v6 : Int32) (v7 : Int32) (v8 : Int32) (v9 : Int32) (v10 : Int32) (v11 : Int32) (s0 : Int32) : Option ((qaM × Int32 × Int32 × Int32 × Int32) ⊕ (Int32 × qaM)) :=
  if v11 = 0 then (b_X7_rules_193 m v1 v2 v3 v4 s0 v7 v8 v10 v11 v6) else (b_X7_rules_193 m v1 v2 v3 v4 s0 v7 v8 v10 v11 v9)
def b_X7_rules_155 (m : qaM) (v1 : Int32) (v2 : Int32) (v3 : Int32) (v4 : Int32) (v5 : Int32) (v6 : Int32) (v7 : Int32) (v8 : Int32) (v9 : Int32) (v10 : Int32) (s0 : Int32) : Option ((qaM × Int32 × Int32 × Int32 × Int32) ⊕ (Int32 × qaM)) :=
  if s0 = 0 then (b_X7_rules_179 m v1 v2 v3 v4 v6 v7 v8 v9 v10 s0 v5) else (b_X7_rules_179 m v1 v2 v3 v4 v6 v7 v8 v9 v10 s0 (((10 : Int32) * (v8 / (3 : Int32))) + (v8 - v8 / (3 : Int32) * (3 : Int32))))
def b_X7_rules_150 (m : qaM) (v1 : Int32) (v2 : Int32) (v3 : Int32) (v4 : Int32) (v5 : Int32) (v6 : Int32) (v7 : Int32) (v8 : Int32) (v9 : Int32) (v10 : Int32) : Option ((qaM × Int32 × Int32 × Int32 × Int32) ⊕ (Int32 × qaM)) :=
  b_X7_rules_155 m v1 v2 v3 v4 v5 v6 v7 v8 v9 v10 (1 : Int32)
def b_X7_rules_154 (m : qaM) (v1 : Int32) (v2 : Int32) (v3 : Int32) (v4 : Int32) (v5 : Int32) (v6 : Int32) (v7 : Int32) (v8 : Int32) (v9 : Int32) (v10 : Int32) : Option ((qaM × Int32 × Int32 × Int32 × Int32) ⊕ (Int32 × qaM)) :=
  b_X7_rules_155 m v1 v2 v3 v4 v5 v6 v7 v8 v9 v10 (0 : Int32)
def b_X7_rules_121 (m : qaM) (v1 : Int32) (v2 : Int32) (v3 : Int32) (v4 : Int32) (v5 : Int32) (v6 : Int32) (v7 : Int32) (v8 : Int32) (v9 : Int32) (s0 : Int32) : Option ((qaM × Int32 × Int32 × Int32 × Int32) ⊕ (Int32 × qaM)) :=
  if v5 = (-1 : Int32) then (b_X7_rules_150 m v1 v2 v3 v4 v5 v6 v7 v8 v9 s0) else (if v6 < v9 then (b_X7_rules_150 m v1 v2 v3 v4 v5 v6 v7 v8 v9 s0) else (if v9 = v6 then (if s0 ≤ v7 then (b_X7_rules_154 m v1 v2 v3 v4 v5 v6 v7 v8 v9 s0) else (b_X7_rules_150 m v1 v2 v3 v4 v5 v6 v7 v8 v9 s0)) else (b_X7_rules_154 m v1 v2 v3 v4 v5 v6 v7 v8 v9 s0)))
def b_X7_rules_94 (m : qaM) (v1 : Int32) (v2 : Int32) (v3 : Int32) (v4 : Int32) (v5 : Int32) (v6 : Int32) (v7 : Int32) (v8 : Int32) (s0 : Int32) : Option ((qaM × Int32 × Int32 × Int32 × Int32) ⊕ (Int32 × qaM)) :=
  if v2 = (1 : Int32) then (b_X7_rules_121 m v1 v2 v3 v4 v5 v6 v7 v8 s0 (0 : Int32)) else (if (m 36 39) = (-1 : Int32) then (b_X7_rules_121 m v1 v2 v3 v4 v5 v6 v7 v8 s0 v1) else (b_X7_rules_121 m v1 v2 v3 v4 v5 v6 v7 v8 s0 (m 36 39)))
def b_X7_rules_46 (m : qaM) (v1 : Int32) (v2 : Int32) (v3 : Int32) (v4 : Int32) (v5 : Int32) (v6 : Int32) (v7 : Int32) (v8 : Int32) : Option ((qaM × Int32 × Int32 × Int32 × Int32) ⊕ (Int32 × qaM)) :=
  if (12 : Int32) ≤ v8 then (qa_inr (b_X7_rules_215 m v3 v4 v5)) else (qa_lt (qa_st m 41 2 (v8 / (3 : Int32))) (fun m7 => qa_lt (qa_st m7 41 3 (v8 - v8 / (3 : Int32) * (3 : Int32))) (fun m8 => Option.bind (f_X7_goes m8 v1) (fun q9 => if v2 = 0 then (Option.bind (f_X7_leftMany q9) (fun q11 => b_X7_rules_94 q9 v1 v2 v3 v4 v5 v6 v7 v8 q11)) else (b_X7_rules_94 q9 v1 v2 v3 v4 v5 v6 v7 v8 (-(q9 36 37)))))))
def lp_X7_rules_46 (m : qaM) (v1 : Int32) (v2 : Int32) (v3 : Int32) (v4 : Int32) (v5 : Int32) (v6 : Int32) (v7 : Int32) (v8 : Int32) : Option (Int32 × qaM) :=
  qa_lp (fun s => b_X7_rules_46 s.1 v1 v2 v3 v4 s.2.1 s.2.2.1 s.2.2.2.1 s.2.2.2.2) qa_F (m, v5, v6, v7, v8)
def f_X7_rules (m : qaM) (v1 : Int32) (v2 : Int32) : Option (Int32 × qaM) :=
  Option.bind (f_X7_areWeeks m v1) (fun q1 => if q1 = 0 then (some (((-2 : Int32), m))) else (Option.bind (f_X7_in m v2 (0 : Int32) (1 : Int32)) (fun q2 => if q2 = 0 then (some (((-2 : Int32), m))) else (qa_lt (m 41 2) (fun x3 => qa_lt (m 41 3) (fun x4 => lp_X7_rules_46 m v1 v2 x3 x4 (-1 : Int32) (0 : Int32) (0 : Int32) (0 : Int32)))))))
def b_X7_which_123 (m : qaM) (v1 : Int32) (v2 : Int32) (v3 : Int32) (v4 : Int32) : Option ((qaM × Int32 × Int32 × Int32) ⊕ (Int32 × qaM)) :=
  qa_lt (v4 + (1 : Int32)) (fun x5 => some (.inl (m, v2, v3, x5)))
def b_X7_which_122 (m : qaM) (v1 : Int32) (v2 : Int32) (v4 : Int32) (s0 : Int32) : Option ((qaM × Int32 × Int32 × Int32) ⊕ (Int32 × qaM)) :=
  b_X7_which_123 m v1 v2 s0 v4
def b_X7_which_105 (m : qaM) (v1 : Int32) (v3 : Int32) (v4 : Int32) (s0 : Int32) : Option ((qaM × Int32 × Int32 × Int32) ⊕ (Int32 × qaM)) :=
  Option.bind (f_X7_leftMany m) (fun q15 => if q15 ≤ v3 then (b_X7_which_122 m v1 s0 v4 v3) else (Option.bind (f_X7_leftMany m) (fun q16 => b_X7_which_122 m v1 s0 v4 q16)))
def b_X7_which_25 (m : qaM) (v1 : Int32) (v2 : Int32) (v3 : Int32) (v4 : Int32) : Option ((qaM × Int32 × Int32 × Int32) ⊕ (Int32 × qaM)) :=
  if (m 36 0) ≤ v4 then (qa_inr (some ((v2, m)))) else (Option.bind (f_X7_mayTurn m v4) (fun q4 => if q4 = 0 then (b_X7_which_123 m v1 v2 v3 v4) else (qa_ck (qa_in ((6 : Int32) * v4) 48) (qa_lt (m 39 ((6 : Int32) * v4).toNatClampNeg) (fun x7 => Option.bind (f_X7_turns m v4) (fun q8 => Option.bind (f_X7_goes q8 v1) (fun q9 => qa_ck (qa_in ((6 : Int32) * v4) 48) (qa_lt (qa_st q9 39 ((6 : Int32) * v4).toNatClampNeg x7) (fun m11 => qa_ck (qa_in (((6 : Int32) * v4) + (3 : Int32)) 48) (qa_lt (qa_st m11 39 (((6 : Int32) * v4) + (3 : Int32)).toNatClampNeg (0 : Int32)) (fun m13 => Option.bind (f_X7_leftMany m13) (fun q14 => if q14 ≤ v3 then (b_X7_which_105 m13 v1 v3 v4 v2) else (b_X7_which_105 m13 v1 v3 v4 v4)))))))))))))
def lp_X7_which_25 (m : qaM) (v1 : Int32) (v2 : Int32) (v3 : Int32) (v4 : Int32) : Option (Int32 × qaM) :=
  qa_lp (fun s => b_X7_which_25 s.1 v1 s.2.1 s.2.2.1 s.2.2.2) qa_F (m, v2, v3, v4)
def f_X7_which (m : qaM) (v1 : Int32) : Option (Int32 × qaM) :=
  Option.bind (f_X7_areWeeks m v1) (fun q1 => if q1 = 0 then (some (((-2 : Int32), m))) else (Option.bind (f_X7_goes m v1) (fun q2 => Option.bind (f_X7_leftMany q2) (fun q3 => lp_X7_which_25 q2 v1 (-1 : Int32) q3 (0 : Int32)))))
def b_X7_goneOf_66 (m : qaM) (v1 : Int32) (v2 : Int32) : Option (Int32 × qaM) :=
  Option.bind (f_X7_laysBack m) (fun q3 => qa_ck (qa_in v1 8) (if (q3 56 v1.toNatClampNeg) = (-1 : Int32) then (some ((v2, q3))) else (qa_ck (qa_in v1 8) (some (((q3 56 v1.toNatClampNeg), q3))))))
def b_X7_goneOf_42 (m : qaM) (v1 : Int32) (v2 : Int32) (v3 : Int32) (v4 : Int32) : Option ((qaM × Int32) ⊕ (Int32 × qaM)) :=
  Option.bind (f_X7_weekBy m v4 (m 41 0) (m 41 2)) (fun q6 => qa_lt (v4 + (1 : Int32)) (fun x7 => some (.inl (q6, x7))))
def b_X7_goneOf_12 (m : qaM) (v1 : Int32) (v2 : Int32) (v3 : Int32) (v4 : Int32) : Option ((qaM × Int32) ⊕ (Int32 × qaM)) :=
  if v2 ≤ v4 then (qa_inr (b_X7_goneOf_66 m v1 v2)) else (if v4 = v3 then (Option.bind (f_X7_mayTurn m v1) (fun q8 => if q8 = 0 then (b_X7_goneOf_42 m v1 v2 v3 v4) else (Option.bind (f_X7_turns m v1) (fun q9 => qa_lt (qa_st q9 36 46 (1 : Int32)) (fun m10 => b_X7_goneOf_42 m10 v1 v2 v3 v4))))) else (b_X7_goneOf_42 m v1 v2 v3 v4))
def lp_X7_goneOf_12 (m : qaM) (v1 : Int32) (v2 : Int32) (v3 : Int32) (v4 : Int32) : Option (Int32 × qaM) :=
  qa_lp (fun s => b_X7_goneOf_12 s.1 v1 v2 v3 s.2) qa_F (m, v4)
def f_X7_goneOf (m : qaM) (v1 : Int32) (v2 : Int32) (v3 : Int32) : Option (Int32 × qaM) :=
  qa_lt (qa_st m 36 46 (0 : Int32)) (fun m1 => Option.bind (f_X7_keeps m1) (fun q2 => lp_X7_goneOf_12 q2 v1 v2 v3 (0 : Int32)))
def b_X7_when_125 (m : qaM) (v3 : Int32) (v4 : Int32) (v5 : Int32) : Option (Int32 × qaM) :=
  if v3 = 0 then (some ((v4, m))) else (some ((v5, m)))
def b_X7_when_117 (m : qaM) (v1 : Int32) (v2 : Int32) (v3 : Int32) (v4 : Int32) (v6 : Int32) (s0 : Int32) : Option ((qaM × Int32 × Int32 × Int32) ⊕ (Int32 × qaM)) :=
  qa_lt (v6 + (1 : Int32)) (fun x6 => some (.inl (m, v4, s0, x6)))
def b_X7_when_103 (m : qaM) (v1 : Int32) (v2 : Int32) (v3 : Int32) (v5 : Int32) (v6 : Int32) (v7 : Int32) (v8 : Int32) (s0 : Int32) : Option ((qaM × Int32 × Int32 × Int32) ⊕ (Int32 × qaM)) :=
  if v8 = 0 then (b_X7_when_117 m v1 v2 v3 s0 v6 v5) else (b_X7_when_117 m v1 v2 v3 s0 v6 v7)
def b_X7_when_89 (m : qaM) (v1 : Int32) (v2 : Int32) (v3 : Int32) (v4 : Int32) (v5 : Int32) (v6 : Int32) (v7 : Int32) (s0 : Int32) : Option ((qaM × Int32 × Int32 × Int32) ⊕ (Int32 × qaM)) :=
  if s0 = 0 then (b_X7_when_103 m v1 v2 v3 v5 v6 v7 s0 v4) else (b_X7_when_103 m v1 v2 v3 v5 v6 v7 s0 v6)
def b_X7_when_88 (m : qaM) (v1 : Int32) (v2 : Int32) (v3 : Int32) (v4 : Int32) (v5 : Int32) (v6 : Int32) (v7 : Int32) : Option ((qaM × Int32 × Int32 × Int32) ⊕ (Int32 × qaM)) :=
  b_X7_when_89 m v1 v2 v3 v4 v5 v6 v7 (0 : Int32)
def b_X7_when_84 (m : qaM) (v1 : Int32) (v2 : Int32) (v3 : Int32) (v4 : Int32) (v5 : Int32) (v6 : Int32) (v7 : Int32) : Option ((qaM × Int32 × Int32 × Int32) ⊕ (Int32 × qaM)) :=
  b_X7_when_89 m v1 v2 v3 v4 v5 v6 v7 (1 : Int32)
def b_X7_when_48 (m : qaM) (v1 : Int32) (v2 : Int32) (v3 : Int32) (v4 : Int32) (v5 : Int32) (v6 : Int32) : Option ((qaM × Int32 × Int32 × Int32) ⊕ (Int32 × qaM)) :=
  if v2 ≤ v6 then (qa_inr (b_X7_when_125 m v3 v4 v5)) else (Option.bind (f_X7_goneOf m v1 v2 v6) (fun q5 => if (q5.2 36 46) = 0 then (b_X7_when_88 q5.2 v1 v2 v3 v4 v5 v6 q5.1) else (if v4 = (-1 : Int32) then (b_X7_when_84 q5.2 v1 v2 v3 v4 v5 v6 q5.1) else (if q5.1 ≤ v5 then (b_X7_when_88 q5.2 v1 v2 v3 v4 v5 v6 q5.1) else (b_X7_when_84 q5.2 v1 v2 v3 v4 v5 v6 q5.1)))))
def lp_X7_when_48 (m : qaM) (v1 : Int32) (v2 : Int32) (v3 : Int32) (v4 : Int32) (v5 : Int32) (v6 : Int32) : Option (Int32 × qaM) :=
  qa_lp (fun s => b_X7_when_48 s.1 v1 v2 v3 s.2.1 s.2.2.1 s.2.2.2) qa_F (m, v4, v5, v6)
def f_X7_when (m : qaM) (v1 : Int32) (v2 : Int32) (v3 : Int32) : Option (Int32 × qaM) :=
  Option.bind (f_X7_isLinen m v1) (fun q1 => if q1 = 0 then (some (((-5 : Int32), m))) else (Option.bind (f_X7_in m v2 (1 : Int32) (60 : Int32)) (fun q2 => if q2 = 0 then (some (((-7 : Int32), m))) else (Option.bind (f_X7_in m v3 (0 : Int32) (1 : Int32)) (fun q3 => if q3 = 0 then (some (((-7 : Int32), m))) else (Option.bind (f_X7_goneOf m v1 v2 (-1 : Int32)) (fun q4 => lp_X7_when_48 q4.2 v1 v2 v3 (-1 : Int32) q4.1 (0 : Int32))))))))
def f_X7_tooFewBy (m : qaM) (v1 : Int32) (v2 : Int32) (v3 : Int32) : Option (Int32 × qaM) :=
  qa_ck (qa_in v1 4) (qa_lt (m 41 v1.toNatClampNeg) (fun x2 => qa_ck (qa_in v1 4) (qa_lt (qa_st m 41 v1.toNatClampNeg v2) (fun m4 => Option.bind (f_X7_goes m4 v3) (fun q5 => qa_ck (qa_in v1 4) (qa_lt (qa_st q5 41 v1.toNatClampNeg x2) (fun m7 => some (((m7 36 37), m7)))))))))
def b_X7_enough_55 (m : qaM) (v1 : Int32) (v3 : Int32) (v4 : Int32) (s0 : Int32) : Option ((qaM × Int32 × Int32 × Int32) ⊕ (Int32 × qaM)) :=
  qa_lt (v4 + (1 : Int32)) (fun x3 => some (.inl (m, s0, v3, x3)))
def b_X7_enough_44 (m : qaM) (v1 : Int32) (v2 : Int32) (v4 : Int32) (s0 : Int32) : Option ((qaM × Int32 × Int32 × Int32) ⊕ (Int32 × qaM)) :=
  if s0 = 0 then (b_X7_enough_55 m v1 s0 v4 v2) else (b_X7_enough_55 m v1 s0 v4 v4)
def b_X7_enough_17 (m : qaM) (v1 : Int32) (v2 : Int32) (v3 : Int32) (v4 : Int32) : Option ((qaM × Int32 × Int32 × Int32) ⊕ (Int32 × qaM)) :=
  if (8 : Int32) < v4 then (qa_inr (some ((v2, m)))) else (if v3 = 0 then (qa_inr (some ((v2, m)))) else (Option.bind (f_X7_tooFewBy m (0 : Int32) v4 v1) (fun q2 => if q2.1 = 0 then (b_X7_enough_44 q2.2 v1 v2 v4 (1 : Int32)) else (b_X7_enough_44 q2.2 v1 v2 v4 (0 : Int32)))))
def lp_X7_enough_17 (m : qaM) (v1 : Int32) (v2 : Int32) (v3 : Int32) (v4 : Int32) : Option (Int32 × qaM) :=
  qa_lp (fun s => b_X7_enough_17 s.1 v1 s.2.1 s.2.2.1 s.2.2.2) qa_F (m, v2, v3, v4)
def f_X7_enough (m : qaM) (v1 : Int32) : Option (Int32 × qaM) :=
  Option.bind (f_X7_areWeeks m v1) (fun q1 => if q1 = 0 then (some (((-2 : Int32), m))) else (lp_X7_enough_17 m v1 (0 : Int32) (1 : Int32) (1 : Int32)))
def b_X7_feast_94 (m : qaM) (v4 : Int32) : Option (Int32 × qaM) :=
  Option.bind (f_X7_laysBack m) (fun q7 => some ((((q7 36 37) - v4), q7)))
def b_X7_feast_79 (m : qaM) (v1 : Int32) (v2 : Int32) (v3 : Int32) (v4 : Int32) (v5 : Int32) (s1 : Int32) (s2 : Int32) : Option ((qaM × Int32) ⊕ (Int32 × qaM)) :=
  Option.bind (f_X7_weekBy m s1 s2 (m 41 2)) (fun q8 => qa_lt (v5 + (1 : Int32)) (fun x9 => some (.inl (q8, x9))))
def b_X7_feast_54 (m : qaM) (v1 : Int32) (v2 : Int32) (v3 : Int32) (v4 : Int32) (v5 : Int32) : Option ((qaM × Int32) ⊕ (Int32 × qaM)) :=
  if v1 ≤ v5 then (qa_inr (b_X7_feast_94 m v4)) else (if v5 = v2 then (b_X7_feast_79 m v1 v2 v3 v4 v5 v5 v3) else (b_X7_feast_79 m v1 v2 v3 v4 v5 v5 (m 41 0)))
def lp_X7_feast_54 (m : qaM) (v1 : Int32) (v2 : Int32) (v3 : Int32) (v4 : Int32) (v5 : Int32) : Option (Int32 × qaM) :=
  qa_lp (fun s => b_X7_feast_54 s.1 v1 v2 v3 v4 s.2) qa_F (m, v5)
def f_X7_feast (m : qaM) (v1 : Int32) (v2 : Int32) (v3 : Int32) : Option (Int32 × qaM) :=
  Option.bind (f_X7_in m v1 (1 : Int32) (200 : Int32)) (fun q1 => if q1 = 0 then (some (((-1000000 : Int32), m))) else (Option.bind (f_X7_in m v2 (0 : Int32) (v1 - (1 : Int32))) (fun q2 => if q2 = 0 then (some (((-1000000 : Int32), m))) else (Option.bind (f_X7_in m v3 (0 : Int32) (8 : Int32)) (fun q3 => if q3 = 0 then (some (((-1000000 : Int32), m))) else (Option.bind (f_X7_goes m v1) (fun q4 => qa_lt (q4 36 37) (fun x5 => Option.bind (f_X7_keeps q4) (fun q6 => lp_X7_feast_54 q6 v1 v2 v3 x5 (0 : Int32))))))))))
def b_X7_laundry_34 (m : qaM) (v1 : Int32) (v3 : Int32) (s0 : Int32) : Option ((qaM × Int32 × Int32) ⊕ (Int32 × qaM)) :=
  qa_lt (v3 + (1 : Int32)) (fun x3 => some (.inl (m, s0, x3)))
def b_X7_laundry_14 (m : qaM) (v1 : Int32) (v2 : Int32) (v3 : Int32) : Option ((qaM × Int32 × Int32) ⊕ (Int32 × qaM)) :=
  if (3 : Int32) < v3 then (qa_inr (some ((v2, m)))) else (Option.bind (f_X7_tooFewBy m (1 : Int32) v3 v1) (fun q2 => if q2.1 = 0 then (b_X7_laundry_34 q2.2 v1 v3 v3) else (b_X7_laundry_34 q2.2 v1 v3 v2)))
def lp_X7_laundry_14 (m : qaM) (v1 : Int32) (v2 : Int32) (v3 : Int32) : Option (Int32 × qaM) :=
  qa_lp (fun s => b_X7_laundry_14 s.1 v1 s.2.1 s.2.2) qa_F (m, v2, v3)
def f_X7_laundry (m : qaM) (v1 : Int32) : Option (Int32 × qaM) :=
  Option.bind (f_X7_areWeeks m v1) (fun q1 => if q1 = 0 then (some (((-2 : Int32), m))) else (lp_X7_laundry_14 m v1 (-1 : Int32) (0 : Int32)))
def f_X7_sheetWrong (m : qaM) (v1 : Int32) : Option (Int32) :=
  Option.bind (f_X7_in m v1 (0 : Int32) (3 : Int32)) (fun q1 => if q1 = 0 then (some ((-2 : Int32))) else (qa_ck (qa_in v1 4) (if (m 48 v1.toNatClampNeg) = (-1 : Int32) then (some ((-11 : Int32))) else (qa_ck (qa_in v1 4) (if (m 49 v1.toNatClampNeg) = (m 36 0) then (some ((0 : Int32))) else (some ((-2 : Int32))))))))
def f_X7_toldWrong (m : qaM) (v1 : Int32) (v2 : Int32) : Option (Int32) :=
  Option.bind (f_X7_sheetWrong m v1) (fun q1 => if q1 = 0 then (Option.bind (f_X7_areWeeks m v2) (fun q2 => if q2 = 0 then (some ((-7 : Int32))) else (some ((0 : Int32))))) else (some (q1)))
def b_X7_unlike_7 (m : qaM) (v1 : Int32) (v3 : Int32) : Option ((Int32) ⊕ (Int32 × qaM)) :=
  if (m 36 0) ≤ v3 then (qa_inr (some (((-1 : Int32), m)))) else (qa_ck (qa_in (((40 : Int32) * v1) + v3) 160) (qa_ck (qa_in ((6 : Int32) * v3) 48) (if (m 50 (((40 : Int32) * v1) + v3).toNatClampNeg) = (m 59 ((6 : Int32) * v3).toNatClampNeg) then (qa_lt (v3 + (1 : Int32)) (fun x4 => some (.inl x4))) else (qa_inr (some ((v3, m)))))))
def lp_X7_unlike_7 (m : qaM) (v1 : Int32) (v3 : Int32) : Option (Int32 × qaM) :=
  qa_lp (fun s => b_X7_unlike_7 m v1 s) qa_F v3
def f_X7_unlike (m : qaM) (v1 : Int32) (v2 : Int32) : Option (Int32 × qaM) :=
  Option.bind (f_X7_goes m v2) (fun q1 => lp_X7_unlike_7 q1 v1 (0 : Int32))
def f_X7_judge (m : qaM) (v1 : Int32) (v2 : Int32) : Option (Int32 × qaM) :=
  Option.bind (f_X7_toldWrong m v1 v2) (fun q1 => if q1 = 0 then (Option.bind (f_X7_unlike m v1 v2) (fun q2 => some ((q2.1, q2.2)))) else (some ((q1, m))))
def b_X7_rulesOf_91 (m : qaM) (v4 : Int32) (v5 : Int32) (v6 : Int32) : Option (Int32 × qaM) :=
  qa_lt (qa_st m 41 2 v4) (fun m4 => qa_lt (qa_st m4 41 3 v5) (fun m5 => some ((v6, m5))))
def b_X7_rulesOf_82 (m : qaM) (v1 : Int32) (v2 : Int32) (v4 : Int32) (v5 : Int32) (v7 : Int32) (s0 : Int32) (s1 : Int32) : Option ((qaM × Int32 × Int32) ⊕ (Int32 × qaM)) :=
  qa_lt (s0 ||| s1) (fun x9 => qa_lt (v7 + (1 : Int32)) (fun x10 => some (.inl (m, x9, x10))))
def b_X7_rulesOf_35 (m : qaM) (v1 : Int32) (v2 : Int32) (v4 : Int32) (v5 : Int32) (v6 : Int32) (v7 : Int32) : Option ((qaM × Int32 × Int32) ⊕ (Int32 × qaM)) :=
  if (12 : Int32) ≤ v7 then (qa_inr (b_X7_rulesOf_91 m v4 v5 v6)) else (qa_lt (qa_st m 41 2 (v7 / (3 : Int32))) (fun m6 => qa_lt (qa_st m6 41 3 (v7 - v7 / (3 : Int32) * (3 : Int32))) (fun m7 => Option.bind (f_X7_unlike m7 v1 v2) (fun q8 => if q8.1 = (-1 : Int32) then (b_X7_rulesOf_82 q8.2 v1 v2 v4 v5 v7 v6 ((1 : Int32) <<< (v7 &&& 31))) else (b_X7_rulesOf_82 q8.2 v1 v2 v4 v5 v7 v6 (0 : Int32))))))
def lp_X7_rulesOf_35 (m : qaM) (v1 : Int32) (v2 : Int32) (v4 : Int32) (v5 : Int32) (v6 : Int32) (v7 : Int32) : Option (Int32 × qaM) :=
  qa_lp (fun s => b_X7_rulesOf_35 s.1 v1 v2 v4 v5 s.2.1 s.2.2) qa_F (m, v6, v7)
def f_X7_rulesOf (m : qaM) (v1 : Int32) (v2 : Int32) : Option (Int32 × qaM) :=
  Option.bind (f_X7_toldWrong m v1 v2) (fun q1 => if q1 = 0 then (qa_lt (m 41 2) (fun x2 => qa_lt (m 41 3) (fun x3 => lp_X7_rulesOf_35 m v1 v2 x2 x3 (0 : Int32) (0 : Int32)))) else (some ((q1, m))))
def b_X7_kinds_170 (m : qaM) (v5 : Int32) (v7 : Int32) (v8 : Int32) (v9 : Int32) : Option (Int32 × qaM) :=
  qa_ck (qa_in v5 8) (qa_lt (qa_st m 37 v5.toNatClampNeg v7) (fun m10 => qa_ck (qa_in v5 8) (qa_lt (qa_st m10 38 v5.toNatClampNeg v8) (fun m12 => some ((v9, m12))))))
def b_X7_kinds_161 (m : qaM) (v1 : Int32) (v2 : Int32) (v5 : Int32) (v6 : Int32) (v7 : Int32) (v8 : Int32) (v10 : Int32) (s0 : Int32) (s1 : Int32) : Option ((qaM × Int32 × Int32) ⊕ (Int32 × qaM)) :=
  qa_lt (s0 ||| s1) (fun x18 => qa_lt (v10 + (1 : Int32)) (fun x19 => some (.inl (m, x18, x19))))
def b_X7_kinds_140 (m : qaM) (v1 : Int32) (v2 : Int32) (v5 : Int32) (v6 : Int32) (v7 : Int32) (v8 : Int32) (v9 : Int32) (v10 : Int32) (s1 : Int32) (s2 : Int32) : Option ((qaM × Int32 × Int32) ⊕ (Int32 × qaM)) :=
  qa_ck (qa_in s1 8) (qa_lt (qa_st m 38 s1.toNatClampNeg s2) (fun m16 => Option.bind (f_X7_unlike m16 v1 v2) (fun q17 => if q17.1 = (-1 : Int32) then (b_X7_kinds_161 q17.2 v1 v2 v5 v6 v7 v8 v10 v9 ((1 : Int32) <<< (v10 &&& 31))) else (b_X7_kinds_161 q17.2 v1 v2 v5 v6 v7 v8 v10 v9 (0 : Int32)))))
def b_X7_kinds_120 (m : qaM) (v1 : Int32) (v2 : Int32) (v5 : Int32) (v6 : Int32) (v7 : Int32) (v8 : Int32) (v9 : Int32) (v10 : Int32) (s1 : Int32) (s2 : Int32) : Option ((qaM × Int32 × Int32) ⊕ (Int32 × qaM)) :=
  qa_ck (qa_in s1 8) (qa_lt (qa_st m 37 s1.toNatClampNeg s2) (fun m14 => if v6 = (1 : Int32) then (b_X7_kinds_140 m14 v1 v2 v5 v6 v7 v8 v9 v10 v5 v10) else (b_X7_kinds_140 m14 v1 v2 v5 v6 v7 v8 v9 v10 v5 v8)))
def b_X7_kinds_99 (m : qaM) (v1 : Int32) (v2 : Int32) (v5 : Int32) (v6 : Int32) (v7 : Int32) (v8 : Int32) (v9 : Int32) (v10 : Int32) (s0 : Int32) (s1 : Int32) : Option ((qaM × Int32 × Int32) ⊕ (Int32 × qaM)) :=
  if s1 ≤ s0 then (qa_inr (b_X7_kinds_170 m v5 v7 v8 v9)) else (if v6 = 0 then (b_X7_kinds_120 m v1 v2 v5 v6 v7 v8 v9 v10 v5 v10) else (b_X7_kinds_120 m v1 v2 v5 v6 v7 v8 v9 v10 v5 v7))
def b_X7_kinds_85 (m : qaM) (v1 : Int32) (v2 : Int32) (v5 : Int32) (v6 : Int32) (v7 : Int32) (v8 : Int32) (v9 : Int32) (v10 : Int32) : Option ((qaM × Int32 × Int32) ⊕ (Int32 × qaM)) :=
  if v6 = 0 then (b_X7_kinds_99 m v1 v2 v5 v6 v7 v8 v9 v10 v10 (6 : Int32)) else (b_X7_kinds_99 m v1 v2 v5 v6 v7 v8 v9 v10 v10 (10 : Int32))
def lp_X7_kinds_85 (m : qaM) (v1 : Int32) (v2 : Int32) (v5 : Int32) (v6 : Int32) (v7 : Int32) (v8 : Int32) (v9 : Int32) (v10 : Int32) : Option (Int32 × qaM) :=
  qa_lp (fun s => b_X7_kinds_85 s.1 v1 v2 v5 v6 v7 v8 s.2.1 s.2.2) qa_F (m, v9, v10)
def b_X7_kinds_28 (m : qaM) (v1 : Int32) (v2 : Int32) (v3 : Int32) (s0 : Int32) : Option (Int32 × qaM) :=
  Option.bind (f_X7_isLinen m s0) (fun q2 => if q2 = 0 then (some (((-5 : Int32), m))) else (qa_lt (v3 - v3 / (10 : Int32) * (10 : Int32)) (fun x3 => Option.bind (f_X7_in m x3 (0 : Int32) (1 : Int32)) (fun q4 => if q4 = 0 then (some (((-7 : Int32), m))) else (qa_ck (qa_in s0 8) (qa_lt (m 37 s0.toNatClampNeg) (fun x6 => qa_ck (qa_in s0 8) (qa_lt (m 38 s0.toNatClampNeg) (fun x8 => lp_X7_kinds_85 m v1 v2 s0 x3 x6 x8 (0 : Int32) (0 : Int32))))))))))
def f_X7_kinds (m : qaM) (v1 : Int32) (v2 : Int32) (v3 : Int32) : Option (Int32 × qaM) :=
  Option.bind (f_X7_toldWrong m v1 v2) (fun q1 => if q1 = 0 then (if 0 ≤ v3 then (b_X7_kinds_28 m v1 v2 v3 (v3 / (10 : Int32))) else (b_X7_kinds_28 m v1 v2 v3 (-1 : Int32))) else (some ((q1, m))))
def b_X7_wants_94 (m : qaM) (v3 : Int32) (v5 : Int32) (v6 : Int32) : Option (Int32 × qaM) :=
  qa_ck (qa_in v3 4) (qa_lt (qa_st m 41 v3.toNatClampNeg v5) (fun m6 => some ((v6, m6))))
def b_X7_wants_85 (m : qaM) (v1 : Int32) (v2 : Int32) (v3 : Int32) (v5 : Int32) (v7 : Int32) (s0 : Int32) (s1 : Int32) : Option ((qaM × Int32 × Int32) ⊕ (Int32 × qaM)) :=
  qa_lt (s0 ||| s1) (fun x10 => qa_lt (v7 + (1 : Int32)) (fun x11 => some (.inl (m, x10, x11))))
def b_X7_wants_54 (m : qaM) (v1 : Int32) (v2 : Int32) (v3 : Int32) (v5 : Int32) (v6 : Int32) (v7 : Int32) (s0 : Int32) (s1 : Int32) : Option ((qaM × Int32 × Int32) ⊕ (Int32 × qaM)) :=
  if s1 < s0 then (qa_inr (b_X7_wants_94 m v3 v5 v6)) else (qa_ck (qa_in v3 4) (qa_lt (qa_st m 41 v3.toNatClampNeg v7) (fun m8 => Option.bind (f_X7_unlike m8 v1 v2) (fun q9 => if q9.1 = (-1 : Int32) then (b_X7_wants_85 q9.2 v1 v2 v3 v5 v7 v6 ((1 : Int32) <<< (v7 &&& 31))) else (b_X7_wants_85 q9.2 v1 v2 v3 v5 v7 v6 (0 : Int32))))))
def b_X7_wants_42 (m : qaM) (v1 : Int32) (v2 : Int32) (v3 : Int32) (v5 : Int32) (v6 : Int32) (v7 : Int32) : Option ((qaM × Int32 × Int32) ⊕ (Int32 × qaM)) :=
  if v3 = 0 then (b_X7_wants_54 m v1 v2 v3 v5 v6 v7 v7 (8 : Int32)) else (b_X7_wants_54 m v1 v2 v3 v5 v6 v7 v7 (3 : Int32))
def lp_X7_wants_42 (m : qaM) (v1 : Int32) (v2 : Int32) (v3 : Int32) (v5 : Int32) (v6 : Int32) (v7 : Int32) : Option (Int32 × qaM) :=
  qa_lp (fun s => b_X7_wants_42 s.1 v1 v2 v3 v5 s.2.1 s.2.2) qa_F (m, v6, v7)
def f_X7_wants (m : qaM) (v1 : Int32) (v2 : Int32) (v3 : Int32) : Option (Int32 × qaM) :=
  Option.bind (f_X7_toldWrong m v1 v2) (fun q1 => if q1 = 0 then (Option.bind (f_X7_in m v3 (0 : Int32) (1 : Int32)) (fun q2 => if q2 = 0 then (some (((-7 : Int32), m))) else (qa_ck (qa_in v3 4) (qa_lt (m 41 v3.toNatClampNeg) (fun x4 => lp_X7_wants_42 m v1 v2 v3 x4 (0 : Int32) (0 : Int32)))))) else (some ((q1, m))))
def b_X7_weeks_99 (m : qaM) (v2 : Int32) (v4 : Int32) (v5 : Int32) : Option (Int32 × qaM) :=
  if v2 = 0 then (some ((v4, m))) else (some ((v5, m)))
def b_X7_weeks_90 (m : qaM) (v1 : Int32) (v2 : Int32) (v4 : Int32) (v6 : Int32) (s0 : Int32) (s1 : Int32) : Option ((qaM × Int32 × Int32 × Int32) ⊕ (Int32 × qaM)) :=
  qa_lt (s0 + s1) (fun x4 => qa_lt (v6 + (1 : Int32)) (fun x5 => some (.inl (m, v4, x4, x5))))
def b_X7_weeks_76 (m : qaM) (v1 : Int32) (v2 : Int32) (v5 : Int32) (v6 : Int32) (v7 : Int32) (s0 : Int32) : Option ((qaM × Int32 × Int32 × Int32) ⊕ (Int32 × qaM)) :=
  if v7 = 0 then (b_X7_weeks_90 m v1 v2 s0 v6 v5 (0 : Int32)) else (b_X7_weeks_90 m v1 v2 s0 v6 v5 (1 : Int32))
def b_X7_weeks_74 (m : qaM) (v1 : Int32) (v2 : Int32) (v4 : Int32) (v5 : Int32) (v6 : Int32) (v7 : Int32) : Option ((qaM × Int32 × Int32 × Int32) ⊕ (Int32 × qaM)) :=
  b_X7_weeks_76 m v1 v2 v5 v6 v7 v4
def b_X7_weeks_56 (m : qaM) (v1 : Int32) (v2 : Int32) (v4 : Int32) (v5 : Int32) (v6 : Int32) (s0 : Int32) : Option ((qaM × Int32 × Int32 × Int32) ⊕ (Int32 × qaM)) :=
  if s0 = 0 then (b_X7_weeks_74 m v1 v2 v4 v5 v6 s0) else (if v4 = (-1 : Int32) then (b_X7_weeks_76 m v1 v2 v5 v6 s0 v6) else (b_X7_weeks_74 m v1 v2 v4 v5 v6 s0))
def b_X7_weeks_33 (m : qaM) (v1 : Int32) (v2 : Int32) (v4 : Int32) (v5 : Int32) (v6 : Int32) : Option ((qaM × Int32 × Int32 × Int32) ⊕ (Int32 × qaM)) :=
  if (60 : Int32) < v6 then (qa_inr (b_X7_weeks_99 m v2 v4 v5)) else (Option.bind (f_X7_unlike m v1 v6) (fun q3 => if q3.1 = (-1 : Int32) then (b_X7_weeks_56 q3.2 v1 v2 v4 v5 v6 (1 : Int32)) else (b_X7_weeks_56 q3.2 v1 v2 v4 v5 v6 (0 : Int32))))
def lp_X7_weeks_33 (m : qaM) (v1 : Int32) (v2 : Int32) (v4 : Int32) (v5 : Int32) (v6 : Int32) : Option (Int32 × qaM) :=
  qa_lp (fun s => b_X7_weeks_33 s.1 v1 v2 s.2.1 s.2.2.1 s.2.2.2) qa_F (m, v4, v5, v6)
def f_X7_weeks (m : qaM) (v1 : Int32) (v2 : Int32) : Option (Int32 × qaM) :=
  Option.bind (f_X7_sheetWrong m v1) (fun q1 => if q1 = 0 then (Option.bind (f_X7_in m v2 (0 : Int32) (1 : Int32)) (fun q2 => if q2 = 0 then (some (((-7 : Int32), m))) else (lp_X7_weeks_33 m v1 v2 (-1 : Int32) (0 : Int32) (0 : Int32)))) else (some ((q1, m))))
def b_X7_laws_69 (m : qaM) (v4 : Int32) (v5 : Int32) : Option (Int32 × qaM) :=
  qa_lt (qa_st m 36 13 v4) (fun m3 => some ((v5, m3)))
def b_X7_laws_60 (m : qaM) (v1 : Int32) (v2 : Int32) (v4 : Int32) (v6 : Int32) (s0 : Int32) (s1 : Int32) : Option ((qaM × Int32 × Int32) ⊕ (Int32 × qaM)) :=
  qa_lt (s0 ||| s1) (fun x6 => qa_lt (v6 + (1 : Int32)) (fun x7 => some (.inl (m, x6, x7))))
def b_X7_laws_25 (m : qaM) (v1 : Int32) (v2 : Int32) (v4 : Int32) (v5 : Int32) (v6 : Int32) : Option ((qaM × Int32 × Int32) ⊕ (Int32 × qaM)) :=
  if (m 36 12) ≤ v6 then (qa_inr (b_X7_laws_69 m v4 v5)) else (qa_lt (qa_st m 36 13 v6) (fun m4 => Option.bind (f_X7_unlike m4 v1 v2) (fun q5 => if q5.1 = (-1 : Int32) then (b_X7_laws_60 q5.2 v1 v2 v4 v6 v5 ((1 : Int32) <<< (v6 &&& 31))) else (b_X7_laws_60 q5.2 v1 v2 v4 v6 v5 (0 : Int32)))))
def lp_X7_laws_25 (m : qaM) (v1 : Int32) (v2 : Int32) (v4 : Int32) (v5 : Int32) (v6 : Int32) : Option (Int32 × qaM) :=
  qa_lp (fun s => b_X7_laws_25 s.1 v1 v2 v4 s.2.1 s.2.2) qa_F (m, v5, v6)
def f_X7_laws (m : qaM) (v1 : Int32) (v2 : Int32) : Option (Int32 × qaM) :=
  Option.bind (f_X7_toldWrong m v1 v2) (fun q1 => if q1 = 0 then (qa_lt (m 36 13) (fun x2 => lp_X7_laws_25 m v1 v2 x2 (0 : Int32) (0 : Int32))) else (some ((q1, m))))
def b_X7_film_86 (m : qaM) (v1 : Int32) (v3 : Int32) (s1 : Int32) (s2 : Int32) : Option ((qaM × Int32) ⊕ (Int32 × qaM)) :=
  qa_ck (qa_in s1 160) (qa_lt (qa_st m 50 s1.toNatClampNeg s2) (fun m9 => qa_lt (v3 + (1 : Int32)) (fun x10 => some (.inl (m9, x10)))))
def b_X7_film_43 (m : qaM) (v1 : Int32) (v3 : Int32) : Option ((qaM × Int32) ⊕ (Int32 × qaM)) :=
  if (40 : Int32) ≤ v3 then (qa_inr (some (((m 36 0), m)))) else (if (m 36 0) ≤ v3 then (b_X7_film_86 m v1 v3 (((40 : Int32) * v1) + v3) (0 : Int32)) else (Option.bind (f_X7_within m v3 (0 : Int32) (7 : Int32)) (fun q11 => qa_ck (qa_in ((6 : Int32) * q11) 48) (b_X7_film_86 m v1 v3 (((40 : Int32) * v1) + v3) (m 59 ((6 : Int32) * q11).toNatClampNeg)))))
def lp_X7_film_43 (m : qaM) (v1 : Int32) (v3 : Int32) : Option (Int32 × qaM) :=
  qa_lp (fun s => b_X7_film_43 s.1 v1 s.2) qa_F (m, v3)
def f_X7_film (m : qaM) (v1 : Int32) (v2 : Int32) : Option (Int32 × qaM) :=
  Option.bind (f_X7_in m v1 (0 : Int32) (3 : Int32)) (fun q1 => if q1 = 0 then (some (((-2 : Int32), m))) else (Option.bind (f_X7_areWeeks m v2) (fun q2 => if q2 = 0 then (some (((-2 : Int32), m))) else (Option.bind (f_X7_goes m v2) (fun q3 => qa_ck (qa_in v1 4) (qa_lt (qa_st q3 48 v1.toNatClampNeg (1 : Int32)) (fun m5 => qa_ck (qa_in v1 4) (qa_lt (qa_st m5 49 v1.toNatClampNeg (m5 36 0)) (fun m7 => lp_X7_film_43 m7 v1 (0 : Int32))))))))))
def b_X7_goesBroken_71 (m : qaM) : Option (qaM) :=
  Option.bind (f_X7_laysBack m) (fun q3 => some (q3))
def b_X7_goesBroken_62 (m : qaM) (v2 : Int32) (v3 : Int32) (v4 : Int64) (v6 : Int32) (s1 : Int32) (s2 : Int32) (s3 : Int32) : Option ((qaM × Int64 × Int32) ⊕ (qaM)) :=
  Option.bind (f_X7_weekBy m s1 s2 s3) (fun q5 => qa_lt (v6 + (1 : Int32)) (fun x6 => some (.inl (q5, v4, x6))))
def b_X7_goesBroken_13 (m : qaM) (v2 : Int32) (v3 : Int32) (v4 : Int64) (v6 : Int32) : Option ((qaM × Int64 × Int32) ⊕ (qaM)) :=
  if v2 ≤ v6 then (qa_inr (b_X7_goesBroken_71 m)) else (qa_lt ((v4 * (48271 : Int64)) - (v4 * (48271 : Int64)) / (2147483647 : Int64) * (2147483647 : Int64)) (fun x4 => if 0 ≤ (lg_cmp (x4 - x4 / (100 : Int64) * (100 : Int64)) v3.toInt64) then (b_X7_goesBroken_62 m v2 v3 x4 v6 v6 (m 41 0) (m 41 2)) else (b_X7_goesBroken_62 m v2 v3 x4 v6 v6 (m 41 0) (0 : Int32))))
def lp_X7_goesBroken_13 (m : qaM) (v2 : Int32) (v3 : Int32) (v4 : Int64) (v6 : Int32) : Option (qaM) :=
  qa_lp (fun s => b_X7_goesBroken_13 s.1 v2 v3 s.2.1 s.2.2) qa_F (m, v4, v6)
def f_X7_goesBroken (m : qaM) (v1 : Int32) (v2 : Int32) (v3 : Int32) : Option (qaM) :=
  qa_lt (v1.toInt64 + (1 : Int64)) (fun x1 => Option.bind (f_X7_keeps m) (fun q2 => lp_X7_goesBroken_13 q2 v2 v3 x1 (0 : Int32)))
def b_X7_wornAll_4 (m : qaM) (v1 : Int32) (v2 : Int32) : Option ((Int32 × Int32) ⊕ (Int32)) :=
  if (m 36 0) ≤ v2 then (qa_inr (some (v1))) else (qa_ck (qa_in ((6 : Int32) * v2) 48) (qa_lt (v1 + (m 59 ((6 : Int32) * v2).toNatClampNeg)) (fun x2 => qa_lt (v2 + (1 : Int32)) (fun x3 => some (.inl (x2, x3))))))
def lp_X7_wornAll_4 (m : qaM) (v1 : Int32) (v2 : Int32) : Option (Int32) :=
  qa_lp (fun s => b_X7_wornAll_4 m s.1 s.2) qa_F (v1, v2)
def f_X7_wornAll (m : qaM) : Option (Int32) :=
  lp_X7_wornAll_4 m (0 : Int32) (0 : Int32)
def f_X7_drawn (m : qaM) (v1 : Int32) (v2 : Int32) (v3 : Int32) : Option (Int32 × qaM) :=
  Option.bind (f_X7_in m v1 (0 : Int32) (99999 : Int32)) (fun q1 => if q1 = 0 then (some (((-2 : Int32), m))) else (Option.bind (f_X7_areWeeks m v2) (fun q2 => if q2 = 0 then (some (((-2 : Int32), m))) else (Option.bind (f_X7_in m v3 (0 : Int32) (1003 : Int32)) (fun q3 => if q3 = 0 then (some (((-2 : Int32), m))) else (if (v3 - v3 / (10 : Int32) * (10 : Int32)) ≤ (3 : Int32) then (Option.bind (f_X7_goesBroken m v1 v2 (v3 / (10 : Int32))) (fun q4 => qa_lt (v3 - v3 / (10 : Int32) * (10 : Int32)) (fun x5 => if x5 = 0 then (Option.bind (f_X7_leftMany q4) (fun q7 => some ((q7, q4)))) else (if x5 = (1 : Int32) then (some (((q4 36 37), q4))) else (if x5 = (2 : Int32) then (some ((((((1 : Int32) <<< ((q4 36 0) &&& 31)) - (1 : Int32)) &&& ((q4 36 38) ^^^ (-1 : Int32))), q4))) else (Option.bind (f_X7_wornAll q4) (fun q6 => some ((q6, q4))))))))) else (some (((-2 : Int32), m)))))))))
def b_X7_lowest_41 (m : qaM) (v0 : Int64) (v2 : Int64) (v4 : Int32) (v5 : Int64) : Option (Int64) :=
  if v4 = 0 then (qa_ck (decide (¬ v5 = 0)) (some ((v0 / v5)))) else (qa_ck (decide (¬ v5 = 0)) (some ((v2 / v5))))
def b_X7_lowest_16 (m : qaM) (v0 : Int64) (v2 : Int64) (v4 : Int32) (v5 : Int64) (v7 : Int64) : Option ((Int64 × Int64) ⊕ (Int64)) :=
  if (lg_cmp v7 (0 : Int64)) = 0 then (qa_inr (b_X7_lowest_41 m v0 v2 v4 v5)) else (qa_ck (decide (¬ v7 = 0)) (qa_lt (v5 - v5 / v7 * v7) (fun x4 => some (.inl (v7, x4)))))
def lp_X7_lowest_16 (m : qaM) (v0 : Int64) (v2 : Int64) (v4 : Int32) (v5 : Int64) (v7 : Int64) : Option (Int64) :=
  qa_lp (fun s => b_X7_lowest_16 m v0 v2 v4 s.1 s.2) qa_F (v5, v7)
def f_X7_lowest (m : qaM) (v0 : Int64) (v2 : Int64) (v4 : Int32) : Option (Int64) :=
  if (lg_cmp v0 (0 : Int64)) = 0 then (some (v4.toInt64)) else (lp_X7_lowest_16 m v0 v2 v4 v0 v2)
def b_X7_odds_120 (m : qaM) (v3 : Int32) (v4 : Int32) (v7 : Int64) : Option (Int64 × qaM) :=
  Option.bind (f_X7_lowest m v7 ((v3 / (100 : Int32)).toInt64) v4) (fun q5 => some ((q5, m)))
def b_X7_odds_111 (m : qaM) (v1 : Int32) (v2 : Int32) (v3 : Int32) (v4 : Int32) (v6 : Int32) (v9 : Int32) (s0 : Int64) (s1 : Int64) : Option ((qaM × Int64 × Int32) ⊕ (Int64 × qaM)) :=
  qa_lt (s0 + s1) (fun x8 => qa_lt (v9 + (1 : Int32)) (fun x9 => some (.inl (m, x8, x9))))
def b_X7_odds_73 (m : qaM) (v1 : Int32) (v2 : Int32) (v3 : Int32) (v4 : Int32) (v6 : Int32) (v7 : Int64) (v9 : Int32) : Option ((qaM × Int64 × Int32) ⊕ (Int64 × qaM)) :=
  if (v3 / (100 : Int32)) ≤ v9 then (qa_inr (b_X7_odds_120 m v3 v4 v7)) else (Option.bind (f_X7_goesBroken m (v1 + v9) v2 (v3 - v3 / (100 : Int32) * (100 : Int32))) (fun q6 => Option.bind (f_X7_leftMany q6) (fun q7 => if q7 < v6 then (b_X7_odds_111 q6 v1 v2 v3 v4 v6 v9 v7 (0 : Int64)) else (b_X7_odds_111 q6 v1 v2 v3 v4 v6 v9 v7 (1 : Int64)))))
def lp_X7_odds_73 (m : qaM) (v1 : Int32) (v2 : Int32) (v3 : Int32) (v4 : Int32) (v6 : Int32) (v7 : Int64) (v9 : Int32) : Option (Int64 × qaM) :=
  qa_lp (fun s => b_X7_odds_73 s.1 v1 v2 v3 v4 v6 s.2.1 s.2.2) qa_F (m, v7, v9)
def b_X7_odds_45 (m : qaM) (v1 : Int32) (v2 : Int32) (v3 : Int32) (v4 : Int32) (s0 : Int32) : Option (Int64 × qaM) :=
  if s0 = 0 then (some (((-4611686018427387904 : Int64), m))) else (Option.bind (f_X7_goes m v2) (fun q2 => Option.bind (f_X7_leftMany q2) (fun q3 => qa_lt (0 : Int64) (fun x4 => lp_X7_odds_73 q2 v1 v2 v3 v4 q3 x4 (0 : Int32)))))
def b_X7_odds_44 (m : qaM) (v1 : Int32) (v2 : Int32) (v3 : Int32) (v4 : Int32) : Option (Int64 × qaM) :=
  b_X7_odds_45 m v1 v2 v3 v4 (0 : Int32)
def f_X7_odds (m : qaM) (v1 : Int32) (v2 : Int32) (v3 : Int32) (v4 : Int32) : Option (Int64 × qaM) :=
  Option.bind (f_X7_in m v1 (0 : Int32) (99999 : Int32)) (fun q1 => if q1 = 0 then (b_X7_odds_44 m v1 v2 v3 v4) else (Option.bind (f_X7_areWeeks m v2) (fun q10 => if q10 = 0 then (b_X7_odds_44 m v1 v2 v3 v4) else (Option.bind (f_X7_in m v3 (100 : Int32) (3099 : Int32)) (fun q11 => if q11 = 0 then (b_X7_odds_44 m v1 v2 v3 v4) else (Option.bind (f_X7_in m v4 (0 : Int32) (1 : Int32)) (fun q12 => if q12 = 0 then (b_X7_odds_44 m v1 v2 v3 v4) else (b_X7_odds_45 m v1 v2 v3 v4 (1 : Int32)))))))))
def b_X7_image_91 (m : qaM) (v1 : Int32) : Option ((qaM × Int32) ⊕ (Int32 × qaM)) :=
  if (4 : Int32) ≤ v1 then (qa_inr (some (((m 36 0), m)))) else (qa_ck (qa_in v1 4) (qa_ck (qa_in v1 4) (qa_lt (qa_st m 47 v1.toNatClampNeg (m 41 v1.toNatClampNeg)) (fun m8 => qa_lt (v1 + (1 : Int32)) (fun x9 => some (.inl (m8, x9)))))))
def lp_X7_image_91 (m : qaM) (v1 : Int32) : Option (Int32 × qaM) :=
  qa_lp (fun s => b_X7_image_91 s.1 s.2) qa_F (m, v1)
def b_X7_image_89 (m : qaM) : Option (Int32 × qaM) :=
  lp_X7_image_91 m (0 : Int32)
def b_X7_image_65 (m : qaM) (v1 : Int32) : Option ((qaM × Int32) ⊕ (Int32 × qaM)) :=
  if (9 : Int32) ≤ v1 then (qa_inr (b_X7_image_89 m)) else (qa_ck (qa_in v1 9) (qa_ck (qa_in v1 9) (qa_lt (qa_st m 46 v1.toNatClampNeg (m 40 v1.toNatClampNeg)) (fun m12 => qa_lt (v1 + (1 : Int32)) (fun x13 => some (.inl (m12, x13)))))))
def lp_X7_image_65 (m : qaM) (v1 : Int32) : Option (Int32 × qaM) :=
  qa_lp (fun s => b_X7_image_65 s.1 s.2) qa_F (m, v1)
def b_X7_image_63 (m : qaM) : Option (Int32 × qaM) :=
  lp_X7_image_65 m (0 : Int32)
def b_X7_image_39 (m : qaM) (v1 : Int32) : Option ((qaM × Int32) ⊕ (Int32 × qaM)) :=
  if (48 : Int32) ≤ v1 then (qa_inr (b_X7_image_63 m)) else (qa_ck (qa_in v1 48) (qa_ck (qa_in v1 48) (qa_lt (qa_st m 45 v1.toNatClampNeg (m 39 v1.toNatClampNeg)) (fun m16 => qa_lt (v1 + (1 : Int32)) (fun x17 => some (.inl (m16, x17)))))))
def lp_X7_image_39 (m : qaM) (v1 : Int32) : Option (Int32 × qaM) :=
  qa_lp (fun s => b_X7_image_39 s.1 s.2) qa_F (m, v1)
def f_X7_image (m : qaM) : Option (Int32 × qaM) :=
  qa_lt (qa_st m 36 14 (1 : Int32)) (fun m1 => qa_lt (qa_st m1 36 15 (m1 36 0)) (fun m2 => qa_lt (qa_st m2 36 16 (m2 36 5)) (fun m3 => qa_lt (qa_st m3 36 17 (m3 36 7)) (fun m4 => qa_lt (qa_st m4 36 18 (m4 36 13)) (fun m5 => lp_X7_image_39 m5 (0 : Int32))))))
def b_X7_back_96 (m : qaM) (v1 : Int32) : Option ((qaM × Int32) ⊕ (Int32 × qaM)) :=
  if (4 : Int32) ≤ v1 then (qa_inr (some (((m 36 0), m)))) else (qa_ck (qa_in v1 4) (qa_ck (qa_in v1 4) (qa_lt (qa_st m 41 v1.toNatClampNeg (m 47 v1.toNatClampNeg)) (fun m7 => qa_lt (v1 + (1 : Int32)) (fun x8 => some (.inl (m7, x8)))))))
def lp_X7_back_96 (m : qaM) (v1 : Int32) : Option (Int32 × qaM) :=
  qa_lp (fun s => b_X7_back_96 s.1 s.2) qa_F (m, v1)
def b_X7_back_94 (m : qaM) : Option (Int32 × qaM) :=
  lp_X7_back_96 m (0 : Int32)
def b_X7_back_70 (m : qaM) (v1 : Int32) : Option ((qaM × Int32) ⊕ (Int32 × qaM)) :=
  if (9 : Int32) ≤ v1 then (qa_inr (b_X7_back_94 m)) else (qa_ck (qa_in v1 9) (qa_ck (qa_in v1 9) (qa_lt (qa_st m 40 v1.toNatClampNeg (m 46 v1.toNatClampNeg)) (fun m11 => qa_lt (v1 + (1 : Int32)) (fun x12 => some (.inl (m11, x12)))))))
def lp_X7_back_70 (m : qaM) (v1 : Int32) : Option (Int32 × qaM) :=
  qa_lp (fun s => b_X7_back_70 s.1 s.2) qa_F (m, v1)
def b_X7_back_68 (m : qaM) : Option (Int32 × qaM) :=
  lp_X7_back_70 m (0 : Int32)
def b_X7_back_44 (m : qaM) (v1 : Int32) : Option ((qaM × Int32) ⊕ (Int32 × qaM)) :=
  if (48 : Int32) ≤ v1 then (qa_inr (b_X7_back_68 m)) else (qa_ck (qa_in v1 48) (qa_ck (qa_in v1 48) (qa_lt (qa_st m 39 v1.toNatClampNeg (m 45 v1.toNatClampNeg)) (fun m15 => qa_lt (v1 + (1 : Int32)) (fun x16 => some (.inl (m15, x16)))))))
def lp_X7_back_44 (m : qaM) (v1 : Int32) : Option (Int32 × qaM) :=
  qa_lp (fun s => b_X7_back_44 s.1 s.2) qa_F (m, v1)
def f_X7_back (m : qaM) : Option (Int32 × qaM) :=
  if (m 36 14) = 0 then (some (((-3 : Int32), m))) else (qa_lt (qa_st m 36 0 (m 36 15)) (fun m1 => qa_lt (qa_st m1 36 5 (m1 36 16)) (fun m2 => qa_lt (qa_st m2 36 7 (m2 36 17)) (fun m3 => qa_lt (qa_st m3 36 13 (m3 36 18)) (fun m4 => lp_X7_back_44 m4 (0 : Int32))))))
def b_X7_sheet_70 (m : qaM) (v1 : Int32) (v4 : Int32) : Option ((qaM × Int32) ⊕ (Int32 × qaM)) :=
  if (40 : Int32) ≤ v4 then (qa_inr (some (((1 : Int32), m)))) else (qa_ck (qa_in (((40 : Int32) * v1) + v4) 160) (qa_lt (qa_st m 50 (((40 : Int32) * v1) + v4).toNatClampNeg (0 : Int32)) (fun m8 => qa_lt (v4 + (1 : Int32)) (fun x9 => some (.inl (m8, x9))))))
def lp_X7_sheet_70 (m : qaM) (v1 : Int32) (v4 : Int32) : Option (Int32 × qaM) :=
  qa_lp (fun s => b_X7_sheet_70 s.1 v1 s.2) qa_F (m, v4)
def b_X7_sheet_66 (m : qaM) (v1 : Int32) (s1 : Int32) (s2 : Int32) : Option (Int32 × qaM) :=
  qa_ck (qa_in s1 4) (qa_lt (qa_st m 49 s1.toNatClampNeg s2) (fun m6 => lp_X7_sheet_70 m6 v1 (0 : Int32)))
def b_X7_sheet_44 (m : qaM) (v1 : Int32) (v2 : Int32) (v3 : Int32) : Option (Int32 × qaM) :=
  qa_ck (qa_in v1 4) (qa_lt (qa_st m 48 v1.toNatClampNeg v2) (fun m4 => if v2 = (-1 : Int32) then (b_X7_sheet_66 m4 v1 v1 (0 : Int32)) else (b_X7_sheet_66 m4 v1 v1 v3)))
def b_X7_sheet_32 (m : qaM) (v1 : Int32) (v2 : Int32) (v3 : Int32) : Option (Int32 × qaM) :=
  if v2 = (-1 : Int32) then (b_X7_sheet_44 m v1 v2 v3) else (if 0 ≤ v3 then (b_X7_sheet_44 m v1 v2 v3) else (some (((-14 : Int32), m))))
def f_X7_sheet (m : qaM) (v1 : Int32) (v2 : Int32) (v3 : Int32) : Option (Int32 × qaM) :=
  Option.bind (f_X7_in m v1 (0 : Int32) (3 : Int32)) (fun q1 => if q1 = 0 then (some (((-2 : Int32), m))) else (Option.bind (f_X7_in m v2 (-1 : Int32) (2 : Int32)) (fun q2 => if q2 = 0 then (some (((-2 : Int32), m))) else (if v2 = (-1 : Int32) then (b_X7_sheet_32 m v1 v2 v3) else (if v3 ≤ (40 : Int32) then (b_X7_sheet_32 m v1 v2 v3) else (some (((-2 : Int32), m))))))))
def b_X7_cell_84 (m : qaM) (s1 : Int32) (s2 : Int32) : Option (Int32 × qaM) :=
  qa_ck (qa_in s1 160) (qa_lt (qa_st m 50 s1.toNatClampNeg s2) (fun m8 => some (((1 : Int32), m8))))
def f_X7_cell (m : qaM) (v1 : Int32) (v2 : Int32) (v3 : Int32) : Option (Int32 × qaM) :=
  Option.bind (f_X7_in m v1 (0 : Int32) (3 : Int32)) (fun q1 => if q1 = 0 then (some (((-2 : Int32), m))) else (qa_ck (qa_in v1 4) (if (m 48 v1.toNatClampNeg) = (-1 : Int32) then (some (((-11 : Int32), m))) else (qa_ck (qa_in v1 4) (Option.bind (f_X7_in m v2 (0 : Int32) ((m 49 v1.toNatClampNeg) - (1 : Int32))) (fun q4 => if q4 = 0 then (some (((-12 : Int32), m))) else (qa_ck (qa_in v1 4) (if (m 48 v1.toNatClampNeg) = 0 then (b_X7_cell_84 m (((40 : Int32) * v1) + v2) v3.toInt8.toInt32) else (qa_ck (qa_in v1 4) (if (m 48 v1.toNatClampNeg) = (1 : Int32) then (b_X7_cell_84 m (((40 : Int32) * v1) + v2) v3.toInt16.toInt32) else (b_X7_cell_84 m (((40 : Int32) * v1) + v2) v3)))))))))))
def b_X7_copy_173 (m : qaM) (v5 : Int32) (v6 : Int32) (v7 : Int32) (v8 : Int32) (s0 : Int32) : Option ((qaM × Int32) ⊕ (Int32 × qaM)) :=
  qa_ck (qa_in (v6 + s0) 160) (qa_ck (qa_in (v7 + s0) 160) (qa_lt (qa_st m 50 (v7 + s0).toNatClampNeg (m 50 (v6 + s0).toNatClampNeg)) (fun m15 => qa_lt (v8 + (1 : Int32)) (fun x16 => some (.inl (m15, x16))))))
def b_X7_copy_147 (m : qaM) (v5 : Int32) (v6 : Int32) (v7 : Int32) (v8 : Int32) : Option ((qaM × Int32) ⊕ (Int32 × qaM)) :=
  if v5 ≤ v8 then (qa_inr (some ((v5, m)))) else (if v7 ≤ v6 then (b_X7_copy_173 m v5 v6 v7 v8 v8) else (b_X7_copy_173 m v5 v6 v7 v8 ((v5 - (1 : Int32)) - v8)))
def lp_X7_copy_147 (m : qaM) (v5 : Int32) (v6 : Int32) (v7 : Int32) (v8 : Int32) : Option (Int32 × qaM) :=
  qa_lp (fun s => b_X7_copy_147 s.1 v5 v6 v7 s.2) qa_F (m, v8)
def f_X7_copy (m : qaM) (v1 : Int32) (v2 : Int32) (v3 : Int32) (v4 : Int32) (v5 : Int32) : Option (Int32 × qaM) :=
  Option.bind (f_X7_in m v1 (0 : Int32) (3 : Int32)) (fun q1 => if q1 = 0 then (some (((-2 : Int32), m))) else (Option.bind (f_X7_in m v3 (0 : Int32) (3 : Int32)) (fun q2 => if q2 = 0 then (some (((-2 : Int32), m))) else (qa_ck (qa_in v1 4) (if (m 48 v1.toNatClampNeg) = (-1 : Int32) then (some (((-11 : Int32), m))) else (qa_ck (qa_in v3 4) (if (m 48 v3.toNatClampNeg) = (-1 : Int32) then (some (((-11 : Int32), m))) else (qa_ck (qa_in v1 4) (qa_ck (qa_in v3 4) (if (m 48 v1.toNatClampNeg) = (m 48 v3.toNatClampNeg) then (if v5 < 0 then (some (((-12 : Int32), m))) else (if v2 < 0 then (some (((-12 : Int32), m))) else (if v4 < 0 then (some (((-12 : Int32), m))) else (qa_ck (qa_in v1 4) (if (m 49 v1.toNatClampNeg) < v2 then (some (((-12 : Int32), m))) else (qa_ck (qa_in v3 4) (if (m 49 v3.toNatClampNeg) < v4 then (some (((-12 : Int32), m))) else (qa_ck (qa_in v1 4) (if ((m 49 v1.toNatClampNeg) - v2) < v5 then (some (((-12 : Int32), m))) else (qa_ck (qa_in v3 4) (if v5 ≤ ((m 49 v3.toNatClampNeg) - v4) then (qa_lt (((40 : Int32) * v1) + v2) (fun x11 => qa_lt (((40 : Int32) * v3) + v4) (fun x12 => lp_X7_copy_147 m v5 x11 x12 (0 : Int32)))) else (some (((-12 : Int32), m)))))))))))))) else (some (((-13 : Int32), m)))))))))))))
def b_X7_buyBy_144 (m : qaM) (v1 : Int32) (v3 : Int32) (v4 : Int32) (v6 : Int32) (s0 : Int32) (s1 : Int32) : Option ((qaM × Int32 × Int32) ⊕ (Int32 × qaM)) :=
  qa_lt (s0 + s1) (fun x12 => qa_lt (v6 + (1 : Int32)) (fun x13 => some (.inl (m, x12, x13))))
def b_X7_buyBy_64 (m : qaM) (v1 : Int32) (v3 : Int32) (v4 : Int32) (v5 : Int32) (v6 : Int32) : Option ((qaM × Int32 × Int32) ⊕ (Int32 × qaM)) :=
  if v4 ≤ v6 then (qa_inr (some ((v5, m)))) else (qa_lt (v3 + ((2 : Int32) * v6)) (fun x6 => if v3 < 0 then (qa_inr (some (((-12 : Int32), m)))) else (if x6 < v3 then (qa_inr (some (((-12 : Int32), m)))) else (qa_ck (qa_in v1 4) (if x6 ≤ ((m 49 v1.toNatClampNeg) - (2 : Int32)) then (qa_lt (((40 : Int32) * v1) + x6) (fun x8 => qa_ck (qa_in x8 160) (qa_ck (qa_in (x8 + (1 : Int32)) 160) (Option.bind (f_X7_buy m (m 50 x8.toNatClampNeg) (m 50 (x8 + (1 : Int32)).toNatClampNeg)) (fun q11 => if q11.1 < 0 then (b_X7_buyBy_144 q11.2 v1 v3 v4 v6 v5 (0 : Int32)) else (b_X7_buyBy_144 q11.2 v1 v3 v4 v6 v5 (1 : Int32))))))) else (qa_inr (some (((-12 : Int32), m)))))))))
def lp_X7_buyBy_64 (m : qaM) (v1 : Int32) (v3 : Int32) (v4 : Int32) (v5 : Int32) (v6 : Int32) : Option (Int32 × qaM) :=
  qa_lp (fun s => b_X7_buyBy_64 s.1 v1 v3 v4 s.2.1 s.2.2) qa_F (m, v5, v6)
def f_X7_buyBy (m : qaM) (v1 : Int32) (v2 : Int32) (v3 : Int32) (v4 : Int32) : Option (Int32 × qaM) :=
  Option.bind (f_X7_in m v1 (0 : Int32) (3 : Int32)) (fun q1 => if q1 = 0 then (some (((-2 : Int32), m))) else (Option.bind (f_X7_in m v2 (0 : Int32) (2 : Int32)) (fun q2 => if q2 = 0 then (some (((-2 : Int32), m))) else (Option.bind (f_X7_in m v4 (0 : Int32) (8 : Int32)) (fun q3 => if q3 = 0 then (some (((-2 : Int32), m))) else (qa_ck (qa_in v1 4) (if (m 48 v1.toNatClampNeg) = (-1 : Int32) then (some (((-11 : Int32), m))) else (qa_ck (qa_in v1 4) (if (m 48 v1.toNatClampNeg) = v2 then (lp_X7_buyBy_64 m v1 v3 v4 (0 : Int32) (0 : Int32)) else (some (((-13 : Int32), m))))))))))))
def b_X7_isUnder_29 (m : qaM) : Option (Int32) :=
  some ((1 : Int32))
def b_X7_isUnder_19 (m : qaM) (v0 : Int32) (v1 : Int32) : Option (Int32) :=
  if v1 = (2 : Int32) then (if v0 = (4 : Int32) then (b_X7_isUnder_29 m) else (some ((0 : Int32)))) else (some ((0 : Int32)))
def f_X7_isUnder (m : qaM) (v0 : Int32) (v1 : Int32) : Option (Int32) :=
  if v1 = 0 then (b_X7_isUnder_29 m) else (if v0 = v1 then (b_X7_isUnder_29 m) else (if v1 = (1 : Int32) then (if v0 = (3 : Int32) then (b_X7_isUnder_29 m) else (b_X7_isUnder_19 m v0 v1)) else (b_X7_isUnder_19 m v0 v1)))
def f_X7_taken (m : qaM) (v1 : Int32) (v2 : Int32) : Option (Int32) :=
  Option.bind (f_X7_in m v2 (0 : Int32) (6 : Int32)) (fun q1 => if q1 = 0 then (some ((-2 : Int32))) else (Option.bind (f_X7_in m v1 (0 : Int32) (15 : Int32)) (fun q2 => if q2 = 0 then (some ((-12 : Int32))) else (if v1 < (8 : Int32) then (if v1 < (m 36 5) then (if (6 : Int32) ≤ v2 then (some ((-13 : Int32))) else (qa_ck (qa_in v1 9) (qa_ck (qa_in (m 40 v1.toNatClampNeg) 8) (Option.bind (f_X7_isUnder m (m 37 (m 40 v1.toNatClampNeg).toNatClampNeg) v2) (fun q5 => if q5 = 0 then (some ((-13 : Int32))) else (qa_ck (qa_in v1 9) (some ((m 40 v1.toNatClampNeg))))))))) else (some ((-11 : Int32)))) else (if (v1 - (8 : Int32)) < (m 36 0) then (if v2 = (6 : Int32) then (qa_ck (qa_in ((6 : Int32) * (v1 - (8 : Int32))) 48) (some ((m 39 ((6 : Int32) * (v1 - (8 : Int32))).toNatClampNeg)))) else (some ((-13 : Int32)))) else (some ((-11 : Int32))))))))
