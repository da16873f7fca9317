/-! THE CLAIM OUT OF ONE WALK OF THE LAW'S BODY. Your part is whole_start (and what it stands on); all else here is the same for every law, but numbers. -/
def R_law : String := "AlwaysTheTopTwoLaw"
def lw_P (b : Addr) (xs : List Int32) (args : Array Value) (s : State) : Prop := args = #[.ref b] ∧ s.IntsAt b xs ∧ xs.length ≤ 3584 ∧ (Jvm.Cond.and given_1 narrow_1).before args s = true
def lw_Q (_ : Array Value) (s : State) (o : Outcome) (t : State) : Prop := o = .returned (some (.int 1)) ∧ Framed s o t [] 600000 7302250
def lw_Z (below : List Frame) (a : Array Value) (s : State) : State → Prop := fun t => ∃ o, t.status = .running ∧ Ended t below o ∧ lw_Q a s o t
/-- the law's own end, with 1 on the stack, nothing written that was there before, its room as the claim has it -/
theorem lw_ret {p : Program} {l : Launch} {e : Env} {s : State} {m : MethodId} {below : List Frame} {meth : Method} {c : Code} {b : Nat} (hx : p.tables.exec = Jvm.exec) (hb : c.code = code) (hr : meth.sig.returnType = ret) (hlocks : meth.locks = false) {pc : Nat} {H : Heap} {ls : Array Slot} (hdg : decode code pc = .ok (.ireturn, 1)) : W p l e room_1 s m #[Value.ref b] below meth c H [] 600000 7302250 (lw_Z below #[Value.ref b] s) (F0 m pc ls [.int 1]) := by
  intro T hT X
  obtain ⟨fs, hret, hrun, hended, hW, hframe⟩ := X.leave (v := some (.int 1)) (hlocks := hlocks) (fun h => by rw [hr] at h; cases h)
  have hmeth' : T.vm.method? m = some meth := X.method'
  refine ⟨T.setFrames fs, ?_, .returned (some (.int 1)), hrun, hended, rfl, ⟨_, rfl⟩, hW, hframe⟩
  jvm_step X.here [X.here.top, hx, hb, hdg, hmeth', hr, ret, narrow_b1]
  (try refine ⟨rfl, ?_⟩); (try refine ⟨rfl, ?_⟩)
  first | (intro acts; rw [hret _ acts rfl rfl rfl]) | rw [hret _ _ rfl rfl rfl]
  exact Steps.refl _
/-- what holds at the law's entry: the machine, the code, the tables' words (any of lw_tbl by 'hts w (by decide +kernel)'), the script of L ints xs at the cell b, what the Statement gives of the start (any of its parts by flat_of_before) -/
def lw_At (p : Program) (s : State) (m : MethodId) (meth : Method) (c : Code) (b L : Nat) (xs : Nat → Int32) : Prop :=
  p.tables.exec = Jvm.exec ∧ c.code = code ∧ meth.sig.returnType = ret ∧ c.maxLocals = 4 ∧ s.vm.findClass R_law = some m.cls ∧ (∀ w ∈ lw_tbl, w.before #[Value.ref b] s = true) ∧ va_X b L xs s s.heap ∧ b < s.heap.size ∧ meth.locks = false ∧ (Jvm.Cond.and given_1 narrow_1).before #[Value.ref b] s = true

def QLw (X : qaX) (b L : Nat) (xs : Nat → Int32) : Prop := match X with
  | (_, _, _, _, s, _, _, _, _, _, _, A, _, _) => va_X b L xs s s.heap ∧ b < s.heap.size ∧ ¬ A b
section
variable {X : qaX} {l0 : Launch} {Y : qaY} {cc : ByteArray} {own : String} {nL D : Nat} {m : qaM} {pc : Nat} {lv : List (Nat × Value)} {st : List Value}
theorem qi_sld (hC : QC X l0 Y cc own nL D) {b L : Nat} {xs : Nat → Int32} (hL : QLw X b L xs) {x : Int32} (hin : vp_in x L) (hd : decode cc pc = .ok (.iaload, 1)) (k : QG X Y nL m (pc + 1) lv (.int (xs x.toNatClampNeg) :: st)) : QG X Y nL m pc lv (.int x :: .ref b :: st) := by
  obtain ⟨p, l, e, R, s, mid, args, below, meth, c, Q, A, cells, slots⟩ := X
  obtain ⟨⟨hl0, hx, hb, hlk, hml, hown⟩, hts, hK, hE, hI, hAi, hAn, hD1, hD2, hD3, hD4⟩ := hC
  obtain ⟨hX, hbl, hbA⟩ := hL
  intro H locs ls hP hS hl
  exact va_sld hx hb hX hbl hbA hS hin hd (k H locs ls hP hS hl)
theorem qi_slen (hC : QC X l0 Y cc own nL D) {b L : Nat} {xs : Nat → Int32} (hL : QLw X b L xs) (hd : decode cc pc = .ok (.arraylength, 1)) (k : QG X Y nL m (pc + 1) lv (.int (nI L) :: st)) : QG X Y nL m pc lv (.ref b :: st) := by
  obtain ⟨p, l, e, R, s, mid, args, below, meth, c, Q, A, cells, slots⟩ := X
  obtain ⟨⟨hl0, hx, hb, hlk, hml, hown⟩, hts, hK, hE, hI, hAi, hAn, hD1, hD2, hD3, hD4⟩ := hC
  obtain ⟨hX, hbl, hbA⟩ := hL
  intro H locs ls hP hS hl
  exact va_slen hx hb hX hbl hbA hS hd (k H locs ls hP hS hl)
end
theorem lc_in (i j : Nat) {L : Nat} (h : i + j < L) (hL : L ≤ 3584) : vp_in (nI i + nI j) L := by
  rw [nI_add]
  exact vp_in_nI h (by omega)
theorem lc_in0 (i : Nat) {L : Nat} (h : i < L) (hL : L ≤ 3584) : vp_in (nI i) L := vp_in_nI h (by omega)
theorem lc_cmp (r : Int64) : lg_cmp r r = 0 := by
  have h : ¬ r < r := fun h => lg_lt_not h h
  simp [lg_cmp, h]
def qaP_count (Rel : qaM → Prop) : Prop := ∀ (m : qaM) (a1 : Int32), Rel m → ∃ (r : Int32), f_X6_count m a1 = some r ∧ f_X7_count m a1 = some r ∧ Rel m
set_option maxRecDepth 100000 in
set_option maxHeartbeats 4000000 in
theorem lc_count {X : qaX} {l : Launch} {Y : qaY} {b L : Nat} {xs : Nat → Int32} {m : qaM} (hC : QC X l Y cL_law RL 4 1000) (hL : QLw X b L xs) {i : Nat} (hi : i + 6 < L) (hLs : L ≤ 3584) {Rel : qaM → Prop} (hRel : Rel m) (hP : qaP_count Rel) (hk : ∀ m2 : qaM, Rel m2 → QG X Y 4 m2 1524 [(0, .ref b), (1, .ref (Y.2.2.1 0)), (2, .ref (Y.2.2.1 36)), (3, .int (nI i))] []) : QG X Y 4 m 204 [(0, .ref b), (1, .ref (Y.2.2.1 0)), (2, .ref (Y.2.2.1 36)), (3, .int (nI i))] [] := by
  obtain ⟨r, h1, h2, h3⟩ := hP m (xs (nI i + (1 : Int32)).toNatClampNeg) hRel
  refine qi_aload_n hC 1 rfl rfl dL_law_204 ?_
  refine qi_aload_n hC 0 rfl rfl dL_law_205 ?_
  refine qi_iload_n hC 3 rfl rfl dL_law_206 ?_
  refine qi_iconst hC dL_law_207 kn_iconst_1 ?_
  refine qi_iadd hC dL_law_208 ?_
  refine qi_sld hC hL (lc_in i 1 (by omega) hLs) dL_law_209 ?_
  refine qi_callVi hC (as := [.int (xs (nI i + (1 : Int32)).toNatClampNeg)]) (c_X6_count _ _ m (xs (nI i + (1 : Int32)).toNatClampNeg) (r) h1) kl_L_13 sh_0 kc_X6_count rfl rfl (by decide) (by decide) (Nat.le_of_ble_eq_true rfl) dL_law_210 ?_
  refine qi_aload_n hC 2 rfl rfl dL_law_213 ?_
  refine qi_aload_n hC 0 rfl rfl dL_law_214 ?_
  refine qi_iload_n hC 3 rfl rfl dL_law_215 ?_
  refine qi_iconst hC dL_law_216 kn_iconst_1 ?_
  refine qi_iadd hC dL_law_217 ?_
  refine qi_sld hC hL (lc_in i 1 (by omega) hLs) dL_law_218 ?_
  refine qi_callVi hC (as := [.int (xs (nI i + (1 : Int32)).toNatClampNeg)]) (c_X7_count _ _ m (xs (nI i + (1 : Int32)).toNatClampNeg) (r) h2) kl_L_17 sh_36 kc_X7_count rfl rfl (by decide) (by decide) (Nat.le_of_ble_eq_true rfl) dL_law_219 ?_
  exact qi_icmp_eq (tgt := 1524) hC (by decide) dL_law_222 (fun _ => hk m h3) (fun h => absurd rfl h)
def qaP_set (Rel : qaM → Prop) : Prop := ∀ (m : qaM) (a1 a2 : Int32), Rel m → ∃ (r : Int32) (m1 : qaM) (m2 : qaM), f_X6_set m a1 a2 = some (r, m1) ∧ f_X7_set m1 a1 a2 = some (r, m2) ∧ Rel m2
set_option maxRecDepth 100000 in
set_option maxHeartbeats 4000000 in
theorem lc_set {X : qaX} {l : Launch} {Y : qaY} {b L : Nat} {xs : Nat → Int32} {m : qaM} (hC : QC X l Y cL_law RL 4 1000) (hL : QLw X b L xs) {i : Nat} (hi : i + 6 < L) (hLs : L ≤ 3584) {Rel : qaM → Prop} (hRel : Rel m) (hP : qaP_set Rel) (hk : ∀ m2 : qaM, Rel m2 → QG X Y 4 m2 1524 [(0, .ref b), (1, .ref (Y.2.2.1 0)), (2, .ref (Y.2.2.1 36)), (3, .int (nI i))] []) : QG X Y 4 m 227 [(0, .ref b), (1, .ref (Y.2.2.1 0)), (2, .ref (Y.2.2.1 36)), (3, .int (nI i))] [] := by
  obtain ⟨r, m1, m2, h1, h2, h3⟩ := hP m (xs (nI i + (1 : Int32)).toNatClampNeg) (xs (nI i + (2 : Int32)).toNatClampNeg) hRel
  refine qi_aload_n hC 1 rfl rfl dL_law_227 ?_
  refine qi_aload_n hC 0 rfl rfl dL_law_228 ?_
  refine qi_iload_n hC 3 rfl rfl dL_law_229 ?_
  refine qi_iconst hC dL_law_230 kn_iconst_1 ?_
  refine qi_iadd hC dL_law_231 ?_
  refine qi_sld hC hL (lc_in i 1 (by omega) hLs) dL_law_232 ?_
  refine qi_aload_n hC 0 rfl rfl dL_law_233 ?_
  refine qi_iload_n hC 3 rfl rfl dL_law_234 ?_
  refine qi_iconst hC dL_law_235 kn_iconst_2 ?_
  refine qi_iadd hC dL_law_236 ?_
  refine qi_sld hC hL (lc_in i 2 (by omega) hLs) dL_law_237 ?_
  refine qi_callVi hC (as := [.int (xs (nI i + (1 : Int32)).toNatClampNeg), .int (xs (nI i + (2 : Int32)).toNatClampNeg)]) (c_X6_set _ _ m (xs (nI i + (1 : Int32)).toNatClampNeg) (xs (nI i + (2 : Int32)).toNatClampNeg) ((r, m1)) h1) kl_L_18 sh_0 kc_X6_set rfl rfl (by decide) (by decide) (Nat.le_of_ble_eq_true rfl) dL_law_238 ?_
  refine qi_aload_n hC 2 rfl rfl dL_law_241 ?_
  refine qi_aload_n hC 0 rfl rfl dL_law_242 ?_
  refine qi_iload_n hC 3 rfl rfl dL_law_243 ?_
  refine qi_iconst hC dL_law_244 kn_iconst_1 ?_
  refine qi_iadd hC dL_law_245 ?_
  refine qi_sld hC hL (lc_in i 1 (by omega) hLs) dL_law_246 ?_
  refine qi_aload_n hC 0 rfl rfl dL_law_247 ?_
  refine qi_iload_n hC 3 rfl rfl dL_law_248 ?_
  refine qi_iconst hC dL_law_249 kn_iconst_2 ?_
  refine qi_iadd hC dL_law_250 ?_
  refine qi_sld hC hL (lc_in i 2 (by omega) hLs) dL_law_251 ?_
  refine qi_callVi hC (as := [.int (xs (nI i + (1 : Int32)).toNatClampNeg), .int (xs (nI i + (2 : Int32)).toNatClampNeg)]) (c_X7_set _ _ m1 (xs (nI i + (1 : Int32)).toNatClampNeg) (xs (nI i + (2 : Int32)).toNatClampNeg) ((r, m2)) h2) kl_L_22 sh_36 kc_X7_set rfl rfl (by decide) (by decide) (Nat.le_of_ble_eq_true rfl) dL_law_252 ?_
  exact qi_icmp_eq (tgt := 1524) hC (by decide) dL_law_255 (fun _ => hk m2 h3) (fun h => absurd rfl h)
def qaP_feed (Rel : qaM → Prop) : Prop := ∀ (m : qaM) (a1 a2 a3 a4 a5 a6 : Int32), Rel m → ∃ (r : Int32) (m1 : qaM) (m2 : qaM), f_X6_feed m a1 a2 a3 a4 a5 a6 = some (r, m1) ∧ f_X7_feed m1 a1 a2 a3 a4 a5 a6 = some (r, m2) ∧ Rel m2
set_option maxRecDepth 100000 in
set_option maxHeartbeats 4000000 in
theorem lc_feed {X : qaX} {l : Launch} {Y : qaY} {b L : Nat} {xs : Nat → Int32} {m : qaM} (hC : QC X l Y cL_law RL 4 1000) (hL : QLw X b L xs) {i : Nat} (hi : i + 6 < L) (hLs : L ≤ 3584) {Rel : qaM → Prop} (hRel : Rel m) (hP : qaP_feed Rel) (hk : ∀ m2 : qaM, Rel m2 → QG X Y 4 m2 1524 [(0, .ref b), (1, .ref (Y.2.2.1 0)), (2, .ref (Y.2.2.1 36)), (3, .int (nI i))] []) : QG X Y 4 m 260 [(0, .ref b), (1, .ref (Y.2.2.1 0)), (2, .ref (Y.2.2.1 36)), (3, .int (nI i))] [] := by
  obtain ⟨r, m1, m2, h1, h2, h3⟩ := hP m (xs (nI i + (1 : Int32)).toNatClampNeg) (xs (nI i + (2 : Int32)).toNatClampNeg) (xs (nI i + (3 : Int32)).toNatClampNeg) (xs (nI i + (4 : Int32)).toNatClampNeg) (xs (nI i + (5 : Int32)).toNatClampNeg) (xs (nI i + (6 : Int32)).toNatClampNeg) hRel
  refine qi_aload_n hC 1 rfl rfl dL_law_260 ?_
  refine qi_aload_n hC 0 rfl rfl dL_law_261 ?_
  refine qi_iload_n hC 3 rfl rfl dL_law_262 ?_
  refine qi_iconst hC dL_law_263 kn_iconst_1 ?_
  refine qi_iadd hC dL_law_264 ?_
  refine qi_sld hC hL (lc_in i 1 (by omega) hLs) dL_law_265 ?_
  refine qi_aload_n hC 0 rfl rfl dL_law_266 ?_
  refine qi_iload_n hC 3 rfl rfl dL_law_267 ?_
  refine qi_iconst hC dL_law_268 kn_iconst_2 ?_
  refine qi_iadd hC dL_law_269 ?_
  refine qi_sld hC hL (lc_in i 2 (by omega) hLs) dL_law_270 ?_
  refine qi_aload_n hC 0 rfl rfl dL_law_271 ?_
  refine qi_iload_n hC 3 rfl rfl dL_law_272 ?_
  refine qi_iconst hC dL_law_273 kn_iconst_3 ?_
  refine qi_iadd hC dL_law_274 ?_
  refine qi_sld hC hL (lc_in i 3 (by omega) hLs) dL_law_275 ?_
  refine qi_aload_n hC 0 rfl rfl dL_law_276 ?_
  refine qi_iload_n hC 3 rfl rfl dL_law_277 ?_
  refine qi_iconst hC dL_law_278 kn_iconst_4 ?_
  refine qi_iadd hC dL_law_279 ?_
  refine qi_sld hC hL (lc_in i 4 (by omega) hLs) dL_law_280 ?_
  refine qi_aload_n hC 0 rfl rfl dL_law_281 ?_
  refine qi_iload_n hC 3 rfl rfl dL_law_282 ?_
  refine qi_iconst hC dL_law_283 kn_iconst_5 ?_
  refine qi_iadd hC dL_law_284 ?_
  refine qi_sld hC hL (lc_in i 5 (by omega) hLs) dL_law_285 ?_
  refine qi_aload_n hC 0 rfl rfl dL_law_286 ?_
  refine qi_iload_n hC 3 rfl rfl dL_law_287 ?_
  refine qi_bipush hC dL_law_288 kn_bipush_6 ?_
  refine qi_iadd hC dL_law_290 ?_
  refine qi_sld hC hL (lc_in i 6 (by omega) hLs) dL_law_291 ?_
  refine qi_callVi hC (as := [.int (xs (nI i + (1 : Int32)).toNatClampNeg), .int (xs (nI i + (2 : Int32)).toNatClampNeg), .int (xs (nI i + (3 : Int32)).toNatClampNeg), .int (xs (nI i + (4 : Int32)).toNatClampNeg), .int (xs (nI i + (5 : Int32)).toNatClampNeg), .int (xs (nI i + (6 : Int32)).toNatClampNeg)]) (c_X6_feed _ _ m (xs (nI i + (1 : Int32)).toNatClampNeg) (xs (nI i + (2 : Int32)).toNatClampNeg) (xs (nI i + (3 : Int32)).toNatClampNeg) (xs (nI i + (4 : Int32)).toNatClampNeg) (xs (nI i + (5 : Int32)).toNatClampNeg) (xs (nI i + (6 : Int32)).toNatClampNeg) ((r, m1)) h1) kl_L_23 sh_0 kc_X6_feed rfl rfl (by decide) (by decide) (Nat.le_of_ble_eq_true rfl) dL_law_292 ?_
  refine qi_aload_n hC 2 rfl rfl dL_law_295 ?_
  refine qi_aload_n hC 0 rfl rfl dL_law_296 ?_
  refine qi_iload_n hC 3 rfl rfl dL_law_297 ?_
  refine qi_iconst hC dL_law_298 kn_iconst_1 ?_
  refine qi_iadd hC dL_law_299 ?_
  refine qi_sld hC hL (lc_in i 1 (by omega) hLs) dL_law_300 ?_
  refine qi_aload_n hC 0 rfl rfl dL_law_301 ?_
  refine qi_iload_n hC 3 rfl rfl dL_law_302 ?_
  refine qi_iconst hC dL_law_303 kn_iconst_2 ?_
  refine qi_iadd hC dL_law_304 ?_
  refine qi_sld hC hL (lc_in i 2 (by omega) hLs) dL_law_305 ?_
  refine qi_aload_n hC 0 rfl rfl dL_law_306 ?_
  refine qi_iload_n hC 3 rfl rfl dL_law_307 ?_
  refine qi_iconst hC dL_law_308 kn_iconst_3 ?_
  refine qi_iadd hC dL_law_309 ?_
  refine qi_sld hC hL (lc_in i 3 (by omega) hLs) dL_law_310 ?_
  refine qi_aload_n hC 0 rfl rfl dL_law_311 ?_
  refine qi_iload_n hC 3 rfl rfl dL_law_312 ?_
  refine qi_iconst hC dL_law_313 kn_iconst_4 ?_
  refine qi_iadd hC dL_law_314 ?_
  refine qi_sld hC hL (lc_in i 4 (by omega) hLs) dL_law_315 ?_
  refine qi_aload_n hC 0 rfl rfl dL_law_316 ?_
  refine qi_iload_n hC 3 rfl rfl dL_law_317 ?_
  refine qi_iconst hC dL_law_318 kn_iconst_5 ?_
  refine qi_iadd hC dL_law_319 ?_
  refine qi_sld hC hL (lc_in i 5 (by omega) hLs) dL_law_320 ?_
  refine qi_aload_n hC 0 rfl rfl dL_law_321 ?_
  refine qi_iload_n hC 3 rfl rfl dL_law_322 ?_
  refine qi_bipush hC dL_law_323 kn_bipush_6 ?_
  refine qi_iadd hC dL_law_325 ?_
  refine qi_sld hC hL (lc_in i 6 (by omega) hLs) dL_law_326 ?_
  refine qi_callVi hC (as := [.int (xs (nI i + (1 : Int32)).toNatClampNeg), .int (xs (nI i + (2 : Int32)).toNatClampNeg), .int (xs (nI i + (3 : Int32)).toNatClampNeg), .int (xs (nI i + (4 : Int32)).toNatClampNeg), .int (xs (nI i + (5 : Int32)).toNatClampNeg), .int (xs (nI i + (6 : Int32)).toNatClampNeg)]) (c_X7_feed _ _ m1 (xs (nI i + (1 : Int32)).toNatClampNeg) (xs (nI i + (2 : Int32)).toNatClampNeg) (xs (nI i + (3 : Int32)).toNatClampNeg) (xs (nI i + (4 : Int32)).toNatClampNeg) (xs (nI i + (5 : Int32)).toNatClampNeg) (xs (nI i + (6 : Int32)).toNatClampNeg) ((r, m2)) h2) kl_L_27 sh_36 kc_X7_feed rfl rfl (by decide) (by decide) (Nat.le_of_ble_eq_true rfl) dL_law_327 ?_
  exact qi_icmp_eq (tgt := 1524) hC (by decide) dL_law_330 (fun _ => hk m2 h3) (fun h => absurd rfl h)
def qaP_text (Rel : qaM → Prop) : Prop := ∀ (m : qaM), Rel m → ∃ (r : Int32) (m1 : qaM) (m2 : qaM), f_X6_text m  = some (r, m1) ∧ f_X7_text m1  = some (r, m2) ∧ Rel m2
set_option maxRecDepth 100000 in
set_option maxHeartbeats 4000000 in
theorem lc_text {X : qaX} {l : Launch} {Y : qaY} {b L : Nat} {xs : Nat → Int32} {m : qaM} (hC : QC X l Y cL_law RL 4 1000) (hL : QLw X b L xs) {i : Nat} (hi : i + 6 < L) (hLs : L ≤ 3584) {Rel : qaM → Prop} (hRel : Rel m) (hP : qaP_text Rel) (hk : ∀ m2 : qaM, Rel m2 → QG X Y 4 m2 1524 [(0, .ref b), (1, .ref (Y.2.2.1 0)), (2, .ref (Y.2.2.1 36)), (3, .int (nI i))] []) : QG X Y 4 m 335 [(0, .ref b), (1, .ref (Y.2.2.1 0)), (2, .ref (Y.2.2.1 36)), (3, .int (nI i))] [] := by
  obtain ⟨r, m1, m2, h1, h2, h3⟩ := hP m  hRel
  refine qi_aload_n hC 1 rfl rfl dL_law_335 ?_
  refine qi_callVi hC (as := []) (c_X6_text _ _ m  ((r, m1)) h1) kl_L_28 sh_0 kc_X6_text rfl rfl (by decide) (by decide) (Nat.le_of_ble_eq_true rfl) dL_law_336 ?_
  refine qi_aload_n hC 2 rfl rfl dL_law_339 ?_
  refine qi_callVi hC (as := []) (c_X7_text _ _ m1  ((r, m2)) h2) kl_L_32 sh_36 kc_X7_text rfl rfl (by decide) (by decide) (Nat.le_of_ble_eq_true rfl) dL_law_340 ?_
  exact qi_icmp_eq (tgt := 1524) hC (by decide) dL_law_343 (fun _ => hk m2 h3) (fun h => absurd rfl h)
def qaP_force (Rel : qaM → Prop) : Prop := ∀ (m : qaM) (a1 : Int32), Rel m → ∃ (r : Int32) (m1 : qaM) (m2 : qaM), f_X6_force m a1 = some (r, m1) ∧ f_X7_force m1 a1 = some (r, m2) ∧ Rel m2
set_option maxRecDepth 100000 in
set_option maxHeartbeats 4000000 in
theorem lc_force {X : qaX} {l : Launch} {Y : qaY} {b L : Nat} {xs : Nat → Int32} {m : qaM} (hC : QC X l Y cL_law RL 4 1000) (hL : QLw X b L xs) {i : Nat} (hi : i + 6 < L) (hLs : L ≤ 3584) {Rel : qaM → Prop} (hRel : Rel m) (hP : qaP_force Rel) (hk : ∀ m2 : qaM, Rel m2 → QG X Y 4 m2 1524 [(0, .ref b), (1, .ref (Y.2.2.1 0)), (2, .ref (Y.2.2.1 36)), (3, .int (nI i))] []) : QG X Y 4 m 348 [(0, .ref b), (1, .ref (Y.2.2.1 0)), (2, .ref (Y.2.2.1 36)), (3, .int (nI i))] [] := by
  obtain ⟨r, m1, m2, h1, h2, h3⟩ := hP m (xs (nI i + (1 : Int32)).toNatClampNeg) hRel
  refine qi_aload_n hC 1 rfl rfl dL_law_348 ?_
  refine qi_aload_n hC 0 rfl rfl dL_law_349 ?_
  refine qi_iload_n hC 3 rfl rfl dL_law_350 ?_
  refine qi_iconst hC dL_law_351 kn_iconst_1 ?_
  refine qi_iadd hC dL_law_352 ?_
  refine qi_sld hC hL (lc_in i 1 (by omega) hLs) dL_law_353 ?_
  refine qi_callVi hC (as := [.int (xs (nI i + (1 : Int32)).toNatClampNeg)]) (c_X6_force _ _ m (xs (nI i + (1 : Int32)).toNatClampNeg) ((r, m1)) h1) kl_L_33 sh_0 kc_X6_force rfl rfl (by decide) (by decide) (Nat.le_of_ble_eq_true rfl) dL_law_354 ?_
  refine qi_aload_n hC 2 rfl rfl dL_law_357 ?_
  refine qi_aload_n hC 0 rfl rfl dL_law_358 ?_
  refine qi_iload_n hC 3 rfl rfl dL_law_359 ?_
  refine qi_iconst hC dL_law_360 kn_iconst_1 ?_
  refine qi_iadd hC dL_law_361 ?_
  refine qi_sld hC hL (lc_in i 1 (by omega) hLs) dL_law_362 ?_
  refine qi_callVi hC (as := [.int (xs (nI i + (1 : Int32)).toNatClampNeg)]) (c_X7_force _ _ m1 (xs (nI i + (1 : Int32)).toNatClampNeg) ((r, m2)) h2) kl_L_36 sh_36 kc_X7_force rfl rfl (by decide) (by decide) (Nat.le_of_ble_eq_true rfl) dL_law_363 ?_
  exact qi_icmp_eq (tgt := 1524) hC (by decide) dL_law_366 (fun _ => hk m2 h3) (fun h => absurd rfl h)
def qaP_asks (Rel : qaM → Prop) : Prop := ∀ (m : qaM) (a1 a2 a3 a4 : Int32), Rel m → ∃ (r : Int32) (m1 : qaM) (m2 : qaM), f_X6_asks m a1 a2 a3 a4 = some (r, m1) ∧ f_X7_asks m1 a1 a2 a3 a4 = some (r, m2) ∧ Rel m2
set_option maxRecDepth 100000 in
set_option maxHeartbeats 4000000 in
theorem lc_asks {X : qaX} {l : Launch} {Y : qaY} {b L : Nat} {xs : Nat → Int32} {m : qaM} (hC : QC X l Y cL_law RL 4 1000) (hL : QLw X b L xs) {i : Nat} (hi : i + 6 < L) (hLs : L ≤ 3584) {Rel : qaM → Prop} (hRel : Rel m) (hP : qaP_asks Rel) (hk : ∀ m2 : qaM, Rel m2 → QG X Y 4 m2 1524 [(0, .ref b), (1, .ref (Y.2.2.1 0)), (2, .ref (Y.2.2.1 36)), (3, .int (nI i))] []) : QG X Y 4 m 371 [(0, .ref b), (1, .ref (Y.2.2.1 0)), (2, .ref (Y.2.2.1 36)), (3, .int (nI i))] [] := by
  obtain ⟨r, m1, m2, h1, h2, h3⟩ := hP m (xs (nI i + (1 : Int32)).toNatClampNeg) (xs (nI i + (2 : Int32)).toNatClampNeg) (xs (nI i + (3 : Int32)).toNatClampNeg) (xs (nI i + (4 : Int32)).toNatClampNeg) hRel
  refine qi_aload_n hC 1 rfl rfl dL_law_371 ?_
  refine qi_aload_n hC 0 rfl rfl dL_law_372 ?_
  refine qi_iload_n hC 3 rfl rfl dL_law_373 ?_
  refine qi_iconst hC dL_law_374 kn_iconst_1 ?_
  refine qi_iadd hC dL_law_375 ?_
  refine qi_sld hC hL (lc_in i 1 (by omega) hLs) dL_law_376 ?_
  refine qi_aload_n hC 0 rfl rfl dL_law_377 ?_
  refine qi_iload_n hC 3 rfl rfl dL_law_378 ?_
  refine qi_iconst hC dL_law_379 kn_iconst_2 ?_
  refine qi_iadd hC dL_law_380 ?_
  refine qi_sld hC hL (lc_in i 2 (by omega) hLs) dL_law_381 ?_
  refine qi_aload_n hC 0 rfl rfl dL_law_382 ?_
  refine qi_iload_n hC 3 rfl rfl dL_law_383 ?_
  refine qi_iconst hC dL_law_384 kn_iconst_3 ?_
  refine qi_iadd hC dL_law_385 ?_
  refine qi_sld hC hL (lc_in i 3 (by omega) hLs) dL_law_386 ?_
  refine qi_aload_n hC 0 rfl rfl dL_law_387 ?_
  refine qi_iload_n hC 3 rfl rfl dL_law_388 ?_
  refine qi_iconst hC dL_law_389 kn_iconst_4 ?_
  refine qi_iadd hC dL_law_390 ?_
  refine qi_sld hC hL (lc_in i 4 (by omega) hLs) dL_law_391 ?_
  refine qi_callVi hC (as := [.int (xs (nI i + (1 : Int32)).toNatClampNeg), .int (xs (nI i + (2 : Int32)).toNatClampNeg), .int (xs (nI i + (3 : Int32)).toNatClampNeg), .int (xs (nI i + (4 : Int32)).toNatClampNeg)]) (c_X6_asks _ _ m (xs (nI i + (1 : Int32)).toNatClampNeg) (xs (nI i + (2 : Int32)).toNatClampNeg) (xs (nI i + (3 : Int32)).toNatClampNeg) (xs (nI i + (4 : Int32)).toNatClampNeg) ((r, m1)) h1) kl_L_37 sh_0 kc_X6_asks rfl rfl (by decide) (by decide) (Nat.le_of_ble_eq_true rfl) dL_law_392 ?_
  refine qi_aload_n hC 2 rfl rfl dL_law_395 ?_
  refine qi_aload_n hC 0 rfl rfl dL_law_396 ?_
  refine qi_iload_n hC 3 rfl rfl dL_law_397 ?_
  refine qi_iconst hC dL_law_398 kn_iconst_1 ?_
  refine qi_iadd hC dL_law_399 ?_
  refine qi_sld hC hL (lc_in i 1 (by omega) hLs) dL_law_400 ?_
  refine qi_aload_n hC 0 rfl rfl dL_law_401 ?_
  refine qi_iload_n hC 3 rfl rfl dL_law_402 ?_
  refine qi_iconst hC dL_law_403 kn_iconst_2 ?_
  refine qi_iadd hC dL_law_404 ?_
  refine qi_sld hC hL (lc_in i 2 (by omega) hLs) dL_law_405 ?_
  refine qi_aload_n hC 0 rfl rfl dL_law_406 ?_
  refine qi_iload_n hC 3 rfl rfl dL_law_407 ?_
  refine qi_iconst hC dL_law_408 kn_iconst_3 ?_
  refine qi_iadd hC dL_law_409 ?_
  refine qi_sld hC hL (lc_in i 3 (by omega) hLs) dL_law_410 ?_
  refine qi_aload_n hC 0 rfl rfl dL_law_411 ?_
  refine qi_iload_n hC 3 rfl rfl dL_law_412 ?_
  refine qi_iconst hC dL_law_413 kn_iconst_4 ?_
  refine qi_iadd hC dL_law_414 ?_
  refine qi_sld hC hL (lc_in i 4 (by omega) hLs) dL_law_415 ?_
  refine qi_callVi hC (as := [.int (xs (nI i + (1 : Int32)).toNatClampNeg), .int (xs (nI i + (2 : Int32)).toNatClampNeg), .int (xs (nI i + (3 : Int32)).toNatClampNeg), .int (xs (nI i + (4 : Int32)).toNatClampNeg)]) (c_X7_asks _ _ m1 (xs (nI i + (1 : Int32)).toNatClampNeg) (xs (nI i + (2 : Int32)).toNatClampNeg) (xs (nI i + (3 : Int32)).toNatClampNeg) (xs (nI i + (4 : Int32)).toNatClampNeg) ((r, m2)) h2) kl_L_41 sh_36 kc_X7_asks rfl rfl (by decide) (by decide) (Nat.le_of_ble_eq_true rfl) dL_law_416 ?_
  exact qi_icmp_eq (tgt := 1524) hC (by decide) dL_law_419 (fun _ => hk m2 h3) (fun h => absurd rfl h)
def qaP_buy (Rel : qaM → Prop) : Prop := ∀ (m : qaM) (a1 a2 : Int32), Rel m → ∃ (r : Int32) (m1 : qaM) (m2 : qaM), f_X6_buy m a1 a2 = some (r, m1) ∧ f_X7_buy m1 a1 a2 = some (r, m2) ∧ Rel m2
set_option maxRecDepth 100000 in
set_option maxHeartbeats 4000000 in
theorem lc_buy {X : qaX} {l : Launch} {Y : qaY} {b L : Nat} {xs : Nat → Int32} {m : qaM} (hC : QC X l Y cL_law RL 4 1000) (hL : QLw X b L xs) {i : Nat} (hi : i + 6 < L) (hLs : L ≤ 3584) {Rel : qaM → Prop} (hRel : Rel m) (hP : qaP_buy Rel) (hk : ∀ m2 : qaM, Rel m2 → QG X Y 4 m2 1524 [(0, .ref b), (1, .ref (Y.2.2.1 0)), (2, .ref (Y.2.2.1 36)), (3, .int (nI i))] []) : QG X Y 4 m 424 [(0, .ref b), (1, .ref (Y.2.2.1 0)), (2, .ref (Y.2.2.1 36)), (3, .int (nI i))] [] := by
  obtain ⟨r, m1, m2, h1, h2, h3⟩ := hP m (xs (nI i + (1 : Int32)).toNatClampNeg) (xs (nI i + (2 : Int32)).toNatClampNeg) hRel
  refine qi_aload_n hC 1 rfl rfl dL_law_424 ?_
  refine qi_aload_n hC 0 rfl rfl dL_law_425 ?_
  refine qi_iload_n hC 3 rfl rfl dL_law_426 ?_
  refine qi_iconst hC dL_law_427 kn_iconst_1 ?_
  refine qi_iadd hC dL_law_428 ?_
  refine qi_sld hC hL (lc_in i 1 (by omega) hLs) dL_law_429 ?_
  refine qi_aload_n hC 0 rfl rfl dL_law_430 ?_
  refine qi_iload_n hC 3 rfl rfl dL_law_431 ?_
  refine qi_iconst hC dL_law_432 kn_iconst_2 ?_
  refine qi_iadd hC dL_law_433 ?_
  refine qi_sld hC hL (lc_in i 2 (by omega) hLs) dL_law_434 ?_
  refine qi_callVi hC (as := [.int (xs (nI i + (1 : Int32)).toNatClampNeg), .int (xs (nI i + (2 : Int32)).toNatClampNeg)]) (c_X6_buy _ _ m (xs (nI i + (1 : Int32)).toNatClampNeg) (xs (nI i + (2 : Int32)).toNatClampNeg) ((r, m1)) h1) kl_L_42 sh_0 kc_X6_buy rfl rfl (by decide) (by decide) (Nat.le_of_ble_eq_true rfl) dL_law_435 ?_
  refine qi_aload_n hC 2 rfl rfl dL_law_438 ?_
  refine qi_aload_n hC 0 rfl rfl dL_law_439 ?_
  refine qi_iload_n hC 3 rfl rfl dL_law_440 ?_
  refine qi_iconst hC dL_law_441 kn_iconst_1 ?_
  refine qi_iadd hC dL_law_442 ?_
  refine qi_sld hC hL (lc_in i 1 (by omega) hLs) dL_law_443 ?_
  refine qi_aload_n hC 0 rfl rfl dL_law_444 ?_
  refine qi_iload_n hC 3 rfl rfl dL_law_445 ?_
  refine qi_iconst hC dL_law_446 kn_iconst_2 ?_
  refine qi_iadd hC dL_law_447 ?_
  refine qi_sld hC hL (lc_in i 2 (by omega) hLs) dL_law_448 ?_
  refine qi_callVi hC (as := [.int (xs (nI i + (1 : Int32)).toNatClampNeg), .int (xs (nI i + (2 : Int32)).toNatClampNeg)]) (c_X7_buy _ _ m1 (xs (nI i + (1 : Int32)).toNatClampNeg) (xs (nI i + (2 : Int32)).toNatClampNeg) ((r, m2)) h2) kl_L_45 sh_36 kc_X7_buy rfl rfl (by decide) (by decide) (Nat.le_of_ble_eq_true rfl) dL_law_449 ?_
  exact qi_icmp_eq (tgt := 1524) hC (by decide) dL_law_452 (fun _ => hk m2 h3) (fun h => absurd rfl h)
def qaP_told (Rel : qaM → Prop) : Prop := ∀ (m : qaM) (a1 a2 : Int32), Rel m → ∃ (r : Int32), f_X6_told m a1 a2 = some r ∧ f_X7_told m a1 a2 = some r ∧ Rel m
set_option maxRecDepth 100000 in
set_option maxHeartbeats 4000000 in
theorem lc_told {X : qaX} {l : Launch} {Y : qaY} {b L : Nat} {xs : Nat → Int32} {m : qaM} (hC : QC X l Y cL_law RL 4 1000) (hL : QLw X b L xs) {i : Nat} (hi : i + 6 < L) (hLs : L ≤ 3584) {Rel : qaM → Prop} (hRel : Rel m) (hP : qaP_told Rel) (hk : ∀ m2 : qaM, Rel m2 → QG X Y 4 m2 1524 [(0, .ref b), (1, .ref (Y.2.2.1 0)), (2, .ref (Y.2.2.1 36)), (3, .int (nI i))] []) : QG X Y 4 m 457 [(0, .ref b), (1, .ref (Y.2.2.1 0)), (2, .ref (Y.2.2.1 36)), (3, .int (nI i))] [] := by
  obtain ⟨r, h1, h2, h3⟩ := hP m (xs (nI i + (1 : Int32)).toNatClampNeg) (xs (nI i + (2 : Int32)).toNatClampNeg) hRel
  refine qi_aload_n hC 1 rfl rfl dL_law_457 ?_
  refine qi_aload_n hC 0 rfl rfl dL_law_458 ?_
  refine qi_iload_n hC 3 rfl rfl dL_law_459 ?_
  refine qi_iconst hC dL_law_460 kn_iconst_1 ?_
  refine qi_iadd hC dL_law_461 ?_
  refine qi_sld hC hL (lc_in i 1 (by omega) hLs) dL_law_462 ?_
  refine qi_aload_n hC 0 rfl rfl dL_law_463 ?_
  refine qi_iload_n hC 3 rfl rfl dL_law_464 ?_
  refine qi_iconst hC dL_law_465 kn_iconst_2 ?_
  refine qi_iadd hC dL_law_466 ?_
  refine qi_sld hC hL (lc_in i 2 (by omega) hLs) dL_law_467 ?_
  refine qi_callVi hC (as := [.int (xs (nI i + (1 : Int32)).toNatClampNeg), .int (xs (nI i + (2 : Int32)).toNatClampNeg)]) (c_X6_told _ _ m (xs (nI i + (1 : Int32)).toNatClampNeg) (xs (nI i + (2 : Int32)).toNatClampNeg) (r) h1) kl_L_46 sh_0 kc_X6_told rfl rfl (by decide) (by decide) (Nat.le_of_ble_eq_true rfl) dL_law_468 ?_
  refine qi_aload_n hC 2 rfl rfl dL_law_471 ?_
  refine qi_aload_n hC 0 rfl rfl dL_law_472 ?_
  refine qi_iload_n hC 3 rfl rfl dL_law_473 ?_
  refine qi_iconst hC dL_law_474 kn_iconst_1 ?_
  refine qi_iadd hC dL_law_475 ?_
  refine qi_sld hC hL (lc_in i 1 (by omega) hLs) dL_law_476 ?_
  refine qi_aload_n hC 0 rfl rfl dL_law_477 ?_
  refine qi_iload_n hC 3 rfl rfl dL_law_478 ?_
  refine qi_iconst hC dL_law_479 kn_iconst_2 ?_
  refine qi_iadd hC dL_law_480 ?_
  refine qi_sld hC hL (lc_in i 2 (by omega) hLs) dL_law_481 ?_
  refine qi_callVi hC (as := [.int (xs (nI i + (1 : Int32)).toNatClampNeg), .int (xs (nI i + (2 : Int32)).toNatClampNeg)]) (c_X7_told _ _ m (xs (nI i + (1 : Int32)).toNatClampNeg) (xs (nI i + (2 : Int32)).toNatClampNeg) (r) h2) kl_L_49 sh_36 kc_X7_told rfl rfl (by decide) (by decide) (Nat.le_of_ble_eq_true rfl) dL_law_482 ?_
  exact qi_icmp_eq (tgt := 1524) hC (by decide) dL_law_485 (fun _ => hk m h3) (fun h => absurd rfl h)
def qaP_put (Rel : qaM → Prop) : Prop := ∀ (m : qaM) (a1 a2 a3 : Int32), Rel m → ∃ (r : Int32) (m1 : qaM) (m2 : qaM), f_X6_put m a1 a2 a3 = some (r, m1) ∧ f_X7_put m1 a1 a2 a3 = some (r, m2) ∧ Rel m2
set_option maxRecDepth 100000 in
set_option maxHeartbeats 4000000 in
theorem lc_put {X : qaX} {l : Launch} {Y : qaY} {b L : Nat} {xs : Nat → Int32} {m : qaM} (hC : QC X l Y cL_law RL 4 1000) (hL : QLw X b L xs) {i : Nat} (hi : i + 6 < L) (hLs : L ≤ 3584) {Rel : qaM → Prop} (hRel : Rel m) (hP : qaP_put Rel) (hk : ∀ m2 : qaM, Rel m2 → QG X Y 4 m2 1524 [(0, .ref b), (1, .ref (Y.2.2.1 0)), (2, .ref (Y.2.2.1 36)), (3, .int (nI i))] []) : QG X Y 4 m 490 [(0, .ref b), (1, .ref (Y.2.2.1 0)), (2, .ref (Y.2.2.1 36)), (3, .int (nI i))] [] := by
  obtain ⟨r, m1, m2, h1, h2, h3⟩ := hP m (xs (nI i + (1 : Int32)).toNatClampNeg) (xs (nI i + (2 : Int32)).toNatClampNeg) (xs (nI i + (3 : Int32)).toNatClampNeg) hRel
  refine qi_aload_n hC 1 rfl rfl dL_law_490 ?_
  refine qi_aload_n hC 0 rfl rfl dL_law_491 ?_
  refine qi_iload_n hC 3 rfl rfl dL_law_492 ?_
  refine qi_iconst hC dL_law_493 kn_iconst_1 ?_
  refine qi_iadd hC dL_law_494 ?_
  refine qi_sld hC hL (lc_in i 1 (by omega) hLs) dL_law_495 ?_
  refine qi_aload_n hC 0 rfl rfl dL_law_496 ?_
  refine qi_iload_n hC 3 rfl rfl dL_law_497 ?_
  refine qi_iconst hC dL_law_498 kn_iconst_2 ?_
  refine qi_iadd hC dL_law_499 ?_
  refine qi_sld hC hL (lc_in i 2 (by omega) hLs) dL_law_500 ?_
  refine qi_aload_n hC 0 rfl rfl dL_law_501 ?_
  refine qi_iload_n hC 3 rfl rfl dL_law_502 ?_
  refine qi_iconst hC dL_law_503 kn_iconst_3 ?_
  refine qi_iadd hC dL_law_504 ?_
  refine qi_sld hC hL (lc_in i 3 (by omega) hLs) dL_law_505 ?_
  refine qi_callVi hC (as := [.int (xs (nI i + (1 : Int32)).toNatClampNeg), .int (xs (nI i + (2 : Int32)).toNatClampNeg), .int (xs (nI i + (3 : Int32)).toNatClampNeg)]) (c_X6_put _ _ m (xs (nI i + (1 : Int32)).toNatClampNeg) (xs (nI i + (2 : Int32)).toNatClampNeg) (xs (nI i + (3 : Int32)).toNatClampNeg) ((r, m1)) h1) kl_L_50 sh_0 kc_X6_put rfl rfl (by decide) (by decide) (Nat.le_of_ble_eq_true rfl) dL_law_506 ?_
  refine qi_aload_n hC 2 rfl rfl dL_law_509 ?_
  refine qi_aload_n hC 0 rfl rfl dL_law_510 ?_
  refine qi_iload_n hC 3 rfl rfl dL_law_511 ?_
  refine qi_iconst hC dL_law_512 kn_iconst_1 ?_
  refine qi_iadd hC dL_law_513 ?_
  refine qi_sld hC hL (lc_in i 1 (by omega) hLs) dL_law_514 ?_
  refine qi_aload_n hC 0 rfl rfl dL_law_515 ?_
  refine qi_iload_n hC 3 rfl rfl dL_law_516 ?_
  refine qi_iconst hC dL_law_517 kn_iconst_2 ?_
  refine qi_iadd hC dL_law_518 ?_
  refine qi_sld hC hL (lc_in i 2 (by omega) hLs) dL_law_519 ?_
  refine qi_aload_n hC 0 rfl rfl dL_law_520 ?_
  refine qi_iload_n hC 3 rfl rfl dL_law_521 ?_
  refine qi_iconst hC dL_law_522 kn_iconst_3 ?_
  refine qi_iadd hC dL_law_523 ?_
  refine qi_sld hC hL (lc_in i 3 (by omega) hLs) dL_law_524 ?_
  refine qi_callVi hC (as := [.int (xs (nI i + (1 : Int32)).toNatClampNeg), .int (xs (nI i + (2 : Int32)).toNatClampNeg), .int (xs (nI i + (3 : Int32)).toNatClampNeg)]) (c_X7_put _ _ m1 (xs (nI i + (1 : Int32)).toNatClampNeg) (xs (nI i + (2 : Int32)).toNatClampNeg) (xs (nI i + (3 : Int32)).toNatClampNeg) ((r, m2)) h2) kl_L_54 sh_36 kc_X7_put rfl rfl (by decide) (by decide) (Nat.le_of_ble_eq_true rfl) dL_law_525 ?_
  exact qi_icmp_eq (tgt := 1524) hC (by decide) dL_law_528 (fun _ => hk m2 h3) (fun h => absurd rfl h)
def qaP_lies (Rel : qaM → Prop) : Prop := ∀ (m : qaM) (a1 : Int32), Rel m → ∃ (r : Int32), f_X6_lies m a1 = some r ∧ f_X7_lies m a1 = some r ∧ Rel m
set_option maxRecDepth 100000 in
set_option maxHeartbeats 4000000 in
theorem lc_lies {X : qaX} {l : Launch} {Y : qaY} {b L : Nat} {xs : Nat → Int32} {m : qaM} (hC : QC X l Y cL_law RL 4 1000) (hL : QLw X b L xs) {i : Nat} (hi : i + 6 < L) (hLs : L ≤ 3584) {Rel : qaM → Prop} (hRel : Rel m) (hP : qaP_lies Rel) (hk : ∀ m2 : qaM, Rel m2 → QG X Y 4 m2 1524 [(0, .ref b), (1, .ref (Y.2.2.1 0)), (2, .ref (Y.2.2.1 36)), (3, .int (nI i))] []) : QG X Y 4 m 533 [(0, .ref b), (1, .ref (Y.2.2.1 0)), (2, .ref (Y.2.2.1 36)), (3, .int (nI i))] [] := by
  obtain ⟨r, h1, h2, h3⟩ := hP m (xs (nI i + (1 : Int32)).toNatClampNeg) hRel
  refine qi_aload_n hC 1 rfl rfl dL_law_533 ?_
  refine qi_aload_n hC 0 rfl rfl dL_law_534 ?_
  refine qi_iload_n hC 3 rfl rfl dL_law_535 ?_
  refine qi_iconst hC dL_law_536 kn_iconst_1 ?_
  refine qi_iadd hC dL_law_537 ?_
  refine qi_sld hC hL (lc_in i 1 (by omega) hLs) dL_law_538 ?_
  refine qi_callVi hC (as := [.int (xs (nI i + (1 : Int32)).toNatClampNeg)]) (c_X6_lies _ _ m (xs (nI i + (1 : Int32)).toNatClampNeg) (r) h1) kl_L_55 sh_0 kc_X6_lies rfl rfl (by decide) (by decide) (Nat.le_of_ble_eq_true rfl) dL_law_539 ?_
  refine qi_aload_n hC 2 rfl rfl dL_law_542 ?_
  refine qi_aload_n hC 0 rfl rfl dL_law_543 ?_
  refine qi_iload_n hC 3 rfl rfl dL_law_544 ?_
  refine qi_iconst hC dL_law_545 kn_iconst_1 ?_
  refine qi_iadd hC dL_law_546 ?_
  refine qi_sld hC hL (lc_in i 1 (by omega) hLs) dL_law_547 ?_
  refine qi_callVi hC (as := [.int (xs (nI i + (1 : Int32)).toNatClampNeg)]) (c_X7_lies _ _ m (xs (nI i + (1 : Int32)).toNatClampNeg) (r) h2) kl_L_58 sh_36 kc_X7_lies rfl rfl (by decide) (by decide) (Nat.le_of_ble_eq_true rfl) dL_law_548 ?_
  exact qi_icmp_eq (tgt := 1524) hC (by decide) dL_law_551 (fun _ => hk m h3) (fun h => absurd rfl h)
def qaP_turn (Rel : qaM → Prop) : Prop := ∀ (m : qaM) (a1 : Int32), Rel m → ∃ (r : Int32) (m1 : qaM) (m2 : qaM), f_X6_turn m a1 = some (r, m1) ∧ f_X7_turn m1 a1 = some (r, m2) ∧ Rel m2
set_option maxRecDepth 100000 in
set_option maxHeartbeats 4000000 in
theorem lc_turn {X : qaX} {l : Launch} {Y : qaY} {b L : Nat} {xs : Nat → Int32} {m : qaM} (hC : QC X l Y cL_law RL 4 1000) (hL : QLw X b L xs) {i : Nat} (hi : i + 6 < L) (hLs : L ≤ 3584) {Rel : qaM → Prop} (hRel : Rel m) (hP : qaP_turn Rel) (hk : ∀ m2 : qaM, Rel m2 → QG X Y 4 m2 1524 [(0, .ref b), (1, .ref (Y.2.2.1 0)), (2, .ref (Y.2.2.1 36)), (3, .int (nI i))] []) : QG X Y 4 m 556 [(0, .ref b), (1, .ref (Y.2.2.1 0)), (2, .ref (Y.2.2.1 36)), (3, .int (nI i))] [] := by
  obtain ⟨r, m1, m2, h1, h2, h3⟩ := hP m (xs (nI i + (1 : Int32)).toNatClampNeg) hRel
  refine qi_aload_n hC 1 rfl rfl dL_law_556 ?_
  refine qi_aload_n hC 0 rfl rfl dL_law_557 ?_
  refine qi_iload_n hC 3 rfl rfl dL_law_558 ?_
  refine qi_iconst hC dL_law_559 kn_iconst_1 ?_
  refine qi_iadd hC dL_law_560 ?_
  refine qi_sld hC hL (lc_in i 1 (by omega) hLs) dL_law_561 ?_
  refine qi_callVi hC (as := [.int (xs (nI i + (1 : Int32)).toNatClampNeg)]) (c_X6_turn _ _ m (xs (nI i + (1 : Int32)).toNatClampNeg) ((r, m1)) h1) kl_L_59 sh_0 kc_X6_turn rfl rfl (by decide) (by decide) (Nat.le_of_ble_eq_true rfl) dL_law_562 ?_
  refine qi_aload_n hC 2 rfl rfl dL_law_565 ?_
  refine qi_aload_n hC 0 rfl rfl dL_law_566 ?_
  refine qi_iload_n hC 3 rfl rfl dL_law_567 ?_
  refine qi_iconst hC dL_law_568 kn_iconst_1 ?_
  refine qi_iadd hC dL_law_569 ?_
  refine qi_sld hC hL (lc_in i 1 (by omega) hLs) dL_law_570 ?_
  refine qi_callVi hC (as := [.int (xs (nI i + (1 : Int32)).toNatClampNeg)]) (c_X7_turn _ _ m1 (xs (nI i + (1 : Int32)).toNatClampNeg) ((r, m2)) h2) kl_L_62 sh_36 kc_X7_turn rfl rfl (by decide) (by decide) (Nat.le_of_ble_eq_true rfl) dL_law_571 ?_
  exact qi_icmp_eq (tgt := 1524) hC (by decide) dL_law_574 (fun _ => hk m2 h3) (fun h => absurd rfl h)
def qaP_next (Rel : qaM → Prop) : Prop := ∀ (m : qaM), Rel m → ∃ (r : Int32), f_X6_next m  = some r ∧ f_X7_next m  = some r ∧ Rel m
set_option maxRecDepth 100000 in
set_option maxHeartbeats 4000000 in
theorem lc_next {X : qaX} {l : Launch} {Y : qaY} {b L : Nat} {xs : Nat → Int32} {m : qaM} (hC : QC X l Y cL_law RL 4 1000) (hL : QLw X b L xs) {i : Nat} (hi : i + 6 < L) (hLs : L ≤ 3584) {Rel : qaM → Prop} (hRel : Rel m) (hP : qaP_next Rel) (hk : ∀ m2 : qaM, Rel m2 → QG X Y 4 m2 1524 [(0, .ref b), (1, .ref (Y.2.2.1 0)), (2, .ref (Y.2.2.1 36)), (3, .int (nI i))] []) : QG X Y 4 m 579 [(0, .ref b), (1, .ref (Y.2.2.1 0)), (2, .ref (Y.2.2.1 36)), (3, .int (nI i))] [] := by
  obtain ⟨r, h1, h2, h3⟩ := hP m  hRel
  refine qi_aload_n hC 1 rfl rfl dL_law_579 ?_
  refine qi_callVi hC (as := []) (c_X6_next _ _ m  (r) h1) kl_L_63 sh_0 kc_X6_next rfl rfl (by decide) (by decide) (Nat.le_of_ble_eq_true rfl) dL_law_580 ?_
  refine qi_aload_n hC 2 rfl rfl dL_law_583 ?_
  refine qi_callVi hC (as := []) (c_X7_next _ _ m  (r) h2) kl_L_66 sh_36 kc_X7_next rfl rfl (by decide) (by decide) (Nat.le_of_ble_eq_true rfl) dL_law_584 ?_
  exact qi_icmp_eq (tgt := 1524) hC (by decide) dL_law_587 (fun _ => hk m h3) (fun h => absurd rfl h)
def qaP_pileUp (Rel : qaM → Prop) : Prop := ∀ (m : qaM) (a1 : Int32), Rel m → ∃ (r : Int32) (m1 : qaM) (m2 : qaM), f_X6_pileUp m a1 = some (r, m1) ∧ f_X7_pileUp m1 a1 = some (r, m2) ∧ Rel m2
set_option maxRecDepth 100000 in
set_option maxHeartbeats 4000000 in
theorem lc_pileUp {X : qaX} {l : Launch} {Y : qaY} {b L : Nat} {xs : Nat → Int32} {m : qaM} (hC : QC X l Y cL_law RL 4 1000) (hL : QLw X b L xs) {i : Nat} (hi : i + 6 < L) (hLs : L ≤ 3584) {Rel : qaM → Prop} (hRel : Rel m) (hP : qaP_pileUp Rel) (hk : ∀ m2 : qaM, Rel m2 → QG X Y 4 m2 1524 [(0, .ref b), (1, .ref (Y.2.2.1 0)), (2, .ref (Y.2.2.1 36)), (3, .int (nI i))] []) : QG X Y 4 m 592 [(0, .ref b), (1, .ref (Y.2.2.1 0)), (2, .ref (Y.2.2.1 36)), (3, .int (nI i))] [] := by
  obtain ⟨r, m1, m2, h1, h2, h3⟩ := hP m (xs (nI i + (1 : Int32)).toNatClampNeg) hRel
  refine qi_aload_n hC 1 rfl rfl dL_law_592 ?_
  refine qi_aload_n hC 0 rfl rfl dL_law_593 ?_
  refine qi_iload_n hC 3 rfl rfl dL_law_594 ?_
  refine qi_iconst hC dL_law_595 kn_iconst_1 ?_
  refine qi_iadd hC dL_law_596 ?_
  refine qi_sld hC hL (lc_in i 1 (by omega) hLs) dL_law_597 ?_
  refine qi_callVi hC (as := [.int (xs (nI i + (1 : Int32)).toNatClampNeg)]) (c_X6_pileUp _ _ m (xs (nI i + (1 : Int32)).toNatClampNeg) ((r, m1)) h1) kl_L_67 sh_0 kc_X6_pileUp rfl rfl (by decide) (by decide) (Nat.le_of_ble_eq_true rfl) dL_law_598 ?_
  refine qi_aload_n hC 2 rfl rfl dL_law_601 ?_
  refine qi_aload_n hC 0 rfl rfl dL_law_602 ?_
  refine qi_iload_n hC 3 rfl rfl dL_law_603 ?_
  refine qi_iconst hC dL_law_604 kn_iconst_1 ?_
  refine qi_iadd hC dL_law_605 ?_
  refine qi_sld hC hL (lc_in i 1 (by omega) hLs) dL_law_606 ?_
  refine qi_callVi hC (as := [.int (xs (nI i + (1 : Int32)).toNatClampNeg)]) (c_X7_pileUp _ _ m1 (xs (nI i + (1 : Int32)).toNatClampNeg) ((r, m2)) h2) kl_L_70 sh_36 kc_X7_pileUp rfl rfl (by decide) (by decide) (Nat.le_of_ble_eq_true rfl) dL_law_607 ?_
  exact qi_icmp_eq (tgt := 1524) hC (by decide) dL_law_610 (fun _ => hk m2 h3) (fun h => absurd rfl h)
def qaP_live (Rel : qaM → Prop) : Prop := ∀ (m : qaM), Rel m → ∃ (r : Int32) (m1 : qaM) (m2 : qaM), f_X6_live m  = some (r, m1) ∧ f_X7_live m1  = some (r, m2) ∧ Rel m2
set_option maxRecDepth 100000 in
set_option maxHeartbeats 4000000 in
theorem lc_live {X : qaX} {l : Launch} {Y : qaY} {b L : Nat} {xs : Nat → Int32} {m : qaM} (hC : QC X l Y cL_law RL 4 1000) (hL : QLw X b L xs) {i : Nat} (hi : i + 6 < L) (hLs : L ≤ 3584) {Rel : qaM → Prop} (hRel : Rel m) (hP : qaP_live Rel) (hk : ∀ m2 : qaM, Rel m2 → QG X Y 4 m2 1524 [(0, .ref b), (1, .ref (Y.2.2.1 0)), (2, .ref (Y.2.2.1 36)), (3, .int (nI i))] []) : QG X Y 4 m 615 [(0, .ref b), (1, .ref (Y.2.2.1 0)), (2, .ref (Y.2.2.1 36)), (3, .int (nI i))] [] := by
  obtain ⟨r, m1, m2, h1, h2, h3⟩ := hP m  hRel
  refine qi_aload_n hC 1 rfl rfl dL_law_615 ?_
  refine qi_callVi hC (as := []) (c_X6_live _ _ m  ((r, m1)) h1) kl_L_71 sh_0 kc_X6_live rfl rfl (by decide) (by decide) (Nat.le_of_ble_eq_true rfl) dL_law_616 ?_
  refine qi_aload_n hC 2 rfl rfl dL_law_619 ?_
  refine qi_callVi hC (as := []) (c_X7_live _ _ m1  ((r, m2)) h2) kl_L_74 sh_36 kc_X7_live rfl rfl (by decide) (by decide) (Nat.le_of_ble_eq_true rfl) dL_law_620 ?_
  exact qi_icmp_eq (tgt := 1524) hC (by decide) dL_law_623 (fun _ => hk m2 h3) (fun h => absurd rfl h)
def qaP_run (Rel : qaM → Prop) : Prop := ∀ (m : qaM) (a1 a2 : Int32), Rel m → ∃ (r : Int32) (m1 : qaM) (m2 : qaM), f_X6_run m a1 a2 = some (r, m1) ∧ f_X7_run m1 a1 a2 = some (r, m2) ∧ Rel m2
set_option maxRecDepth 100000 in
set_option maxHeartbeats 4000000 in
theorem lc_run {X : qaX} {l : Launch} {Y : qaY} {b L : Nat} {xs : Nat → Int32} {m : qaM} (hC : QC X l Y cL_law RL 4 1000) (hL : QLw X b L xs) {i : Nat} (hi : i + 6 < L) (hLs : L ≤ 3584) {Rel : qaM → Prop} (hRel : Rel m) (hP : qaP_run Rel) (hk : ∀ m2 : qaM, Rel m2 → QG X Y 4 m2 1524 [(0, .ref b), (1, .ref (Y.2.2.1 0)), (2, .ref (Y.2.2.1 36)), (3, .int (nI i))] []) : QG X Y 4 m 628 [(0, .ref b), (1, .ref (Y.2.2.1 0)), (2, .ref (Y.2.2.1 36)), (3, .int (nI i))] [] := by
  obtain ⟨r, m1, m2, h1, h2, h3⟩ := hP m (xs (nI i + (1 : Int32)).toNatClampNeg) (xs (nI i + (2 : Int32)).toNatClampNeg) hRel
  refine qi_aload_n hC 1 rfl rfl dL_law_628 ?_
  refine qi_aload_n hC 0 rfl rfl dL_law_629 ?_
  refine qi_iload_n hC 3 rfl rfl dL_law_630 ?_
  refine qi_iconst hC dL_law_631 kn_iconst_1 ?_
  refine qi_iadd hC dL_law_632 ?_
  refine qi_sld hC hL (lc_in i 1 (by omega) hLs) dL_law_633 ?_
  refine qi_aload_n hC 0 rfl rfl dL_law_634 ?_
  refine qi_iload_n hC 3 rfl rfl dL_law_635 ?_
  refine qi_iconst hC dL_law_636 kn_iconst_2 ?_
  refine qi_iadd hC dL_law_637 ?_
  refine qi_sld hC hL (lc_in i 2 (by omega) hLs) dL_law_638 ?_
  refine qi_callVi hC (as := [.int (xs (nI i + (1 : Int32)).toNatClampNeg), .int (xs (nI i + (2 : Int32)).toNatClampNeg)]) (c_X6_run _ _ m (xs (nI i + (1 : Int32)).toNatClampNeg) (xs (nI i + (2 : Int32)).toNatClampNeg) ((r, m1)) h1) kl_L_75 sh_0 kc_X6_run rfl rfl (by decide) (by decide) (Nat.le_of_ble_eq_true rfl) dL_law_639 ?_
  refine qi_aload_n hC 2 rfl rfl dL_law_642 ?_
  refine qi_aload_n hC 0 rfl rfl dL_law_643 ?_
  refine qi_iload_n hC 3 rfl rfl dL_law_644 ?_
  refine qi_iconst hC dL_law_645 kn_iconst_1 ?_
  refine qi_iadd hC dL_law_646 ?_
  refine qi_sld hC hL (lc_in i 1 (by omega) hLs) dL_law_647 ?_
  refine qi_aload_n hC 0 rfl rfl dL_law_648 ?_
  refine qi_iload_n hC 3 rfl rfl dL_law_649 ?_
  refine qi_iconst hC dL_law_650 kn_iconst_2 ?_
  refine qi_iadd hC dL_law_651 ?_
  refine qi_sld hC hL (lc_in i 2 (by omega) hLs) dL_law_652 ?_
  refine qi_callVi hC (as := [.int (xs (nI i + (1 : Int32)).toNatClampNeg), .int (xs (nI i + (2 : Int32)).toNatClampNeg)]) (c_X7_run _ _ m1 (xs (nI i + (1 : Int32)).toNatClampNeg) (xs (nI i + (2 : Int32)).toNatClampNeg) ((r, m2)) h2) kl_L_78 sh_36 kc_X7_run rfl rfl (by decide) (by decide) (Nat.le_of_ble_eq_true rfl) dL_law_653 ?_
  exact qi_icmp_eq (tgt := 1524) hC (by decide) dL_law_656 (fun _ => hk m2 h3) (fun h => absurd rfl h)
def qaP_then (Rel : qaM → Prop) : Prop := ∀ (m : qaM) (a1 a2 a3 : Int32), Rel m → ∃ (r : Int32) (m1 : qaM) (m2 : qaM), f_X6_then m a1 a2 a3 = some (r, m1) ∧ f_X7_then m1 a1 a2 a3 = some (r, m2) ∧ Rel m2
set_option maxRecDepth 100000 in
set_option maxHeartbeats 4000000 in
theorem lc_then {X : qaX} {l : Launch} {Y : qaY} {b L : Nat} {xs : Nat → Int32} {m : qaM} (hC : QC X l Y cL_law RL 4 1000) (hL : QLw X b L xs) {i : Nat} (hi : i + 6 < L) (hLs : L ≤ 3584) {Rel : qaM → Prop} (hRel : Rel m) (hP : qaP_then Rel) (hk : ∀ m2 : qaM, Rel m2 → QG X Y 4 m2 1524 [(0, .ref b), (1, .ref (Y.2.2.1 0)), (2, .ref (Y.2.2.1 36)), (3, .int (nI i))] []) : QG X Y 4 m 661 [(0, .ref b), (1, .ref (Y.2.2.1 0)), (2, .ref (Y.2.2.1 36)), (3, .int (nI i))] [] := by
  obtain ⟨r, m1, m2, h1, h2, h3⟩ := hP m (xs (nI i + (1 : Int32)).toNatClampNeg) (xs (nI i + (2 : Int32)).toNatClampNeg) (xs (nI i + (3 : Int32)).toNatClampNeg) hRel
  refine qi_aload_n hC 1 rfl rfl dL_law_661 ?_
  refine qi_aload_n hC 0 rfl rfl dL_law_662 ?_
  refine qi_iload_n hC 3 rfl rfl dL_law_663 ?_
  refine qi_iconst hC dL_law_664 kn_iconst_1 ?_
  refine qi_iadd hC dL_law_665 ?_
  refine qi_sld hC hL (lc_in i 1 (by omega) hLs) dL_law_666 ?_
  refine qi_aload_n hC 0 rfl rfl dL_law_667 ?_
  refine qi_iload_n hC 3 rfl rfl dL_law_668 ?_
  refine qi_iconst hC dL_law_669 kn_iconst_2 ?_
  refine qi_iadd hC dL_law_670 ?_
  refine qi_sld hC hL (lc_in i 2 (by omega) hLs) dL_law_671 ?_
  refine qi_aload_n hC 0 rfl rfl dL_law_672 ?_
  refine qi_iload_n hC 3 rfl rfl dL_law_673 ?_
  refine qi_iconst hC dL_law_674 kn_iconst_3 ?_
  refine qi_iadd hC dL_law_675 ?_
  refine qi_sld hC hL (lc_in i 3 (by omega) hLs) dL_law_676 ?_
  refine qi_callVi hC (as := [.int (xs (nI i + (1 : Int32)).toNatClampNeg), .int (xs (nI i + (2 : Int32)).toNatClampNeg), .int (xs (nI i + (3 : Int32)).toNatClampNeg)]) (c_X6_then _ _ m (xs (nI i + (1 : Int32)).toNatClampNeg) (xs (nI i + (2 : Int32)).toNatClampNeg) (xs (nI i + (3 : Int32)).toNatClampNeg) ((r, m1)) h1) kl_L_79 sh_0 kc_X6_then rfl rfl (by decide) (by decide) (Nat.le_of_ble_eq_true rfl) dL_law_677 ?_
  refine qi_aload_n hC 2 rfl rfl dL_law_680 ?_
  refine qi_aload_n hC 0 rfl rfl dL_law_681 ?_
  refine qi_iload_n hC 3 rfl rfl dL_law_682 ?_
  refine qi_iconst hC dL_law_683 kn_iconst_1 ?_
  refine qi_iadd hC dL_law_684 ?_
  refine qi_sld hC hL (lc_in i 1 (by omega) hLs) dL_law_685 ?_
  refine qi_aload_n hC 0 rfl rfl dL_law_686 ?_
  refine qi_iload_n hC 3 rfl rfl dL_law_687 ?_
  refine qi_iconst hC dL_law_688 kn_iconst_2 ?_
  refine qi_iadd hC dL_law_689 ?_
  refine qi_sld hC hL (lc_in i 2 (by omega) hLs) dL_law_690 ?_
  refine qi_aload_n hC 0 rfl rfl dL_law_691 ?_
  refine qi_iload_n hC 3 rfl rfl dL_law_692 ?_
  refine qi_iconst hC dL_law_693 kn_iconst_3 ?_
  refine qi_iadd hC dL_law_694 ?_
  refine qi_sld hC hL (lc_in i 3 (by omega) hLs) dL_law_695 ?_
  refine qi_callVi hC (as := [.int (xs (nI i + (1 : Int32)).toNatClampNeg), .int (xs (nI i + (2 : Int32)).toNatClampNeg), .int (xs (nI i + (3 : Int32)).toNatClampNeg)]) (c_X7_then _ _ m1 (xs (nI i + (1 : Int32)).toNatClampNeg) (xs (nI i + (2 : Int32)).toNatClampNeg) (xs (nI i + (3 : Int32)).toNatClampNeg) ((r, m2)) h2) kl_L_82 sh_36 kc_X7_then rfl rfl (by decide) (by decide) (Nat.le_of_ble_eq_true rfl) dL_law_696 ?_
  exact qi_icmp_eq (tgt := 1524) hC (by decide) dL_law_699 (fun _ => hk m2 h3) (fun h => absurd rfl h)
def qaP_cost (Rel : qaM → Prop) : Prop := ∀ (m : qaM) (a1 : Int32), Rel m → ∃ (r : Int32) (m1 : qaM) (m2 : qaM), f_X6_cost m a1 = some (r, m1) ∧ f_X7_cost m1 a1 = some (r, m2) ∧ Rel m2
set_option maxRecDepth 100000 in
set_option maxHeartbeats 4000000 in
theorem lc_cost {X : qaX} {l : Launch} {Y : qaY} {b L : Nat} {xs : Nat → Int32} {m : qaM} (hC : QC X l Y cL_law RL 4 1000) (hL : QLw X b L xs) {i : Nat} (hi : i + 6 < L) (hLs : L ≤ 3584) {Rel : qaM → Prop} (hRel : Rel m) (hP : qaP_cost Rel) (hk : ∀ m2 : qaM, Rel m2 → QG X Y 4 m2 1524 [(0, .ref b), (1, .ref (Y.2.2.1 0)), (2, .ref (Y.2.2.1 36)), (3, .int (nI i))] []) : QG X Y 4 m 704 [(0, .ref b), (1, .ref (Y.2.2.1 0)), (2, .ref (Y.2.2.1 36)), (3, .int (nI i))] [] := by
  obtain ⟨r, m1, m2, h1, h2, h3⟩ := hP m (xs (nI i + (1 : Int32)).toNatClampNeg) hRel
  refine qi_aload_n hC 1 rfl rfl dL_law_704 ?_
  refine qi_aload_n hC 0 rfl rfl dL_law_705 ?_
  refine qi_iload_n hC 3 rfl rfl dL_law_706 ?_
  refine qi_iconst hC dL_law_707 kn_iconst_1 ?_
  refine qi_iadd hC dL_law_708 ?_
  refine qi_sld hC hL (lc_in i 1 (by omega) hLs) dL_law_709 ?_
  refine qi_callVi hC (as := [.int (xs (nI i + (1 : Int32)).toNatClampNeg)]) (c_X6_cost _ _ m (xs (nI i + (1 : Int32)).toNatClampNeg) ((r, m1)) h1) kl_L_83 sh_0 kc_X6_cost rfl rfl (by decide) (by decide) (Nat.le_of_ble_eq_true rfl) dL_law_710 ?_
  refine qi_aload_n hC 2 rfl rfl dL_law_713 ?_
  refine qi_aload_n hC 0 rfl rfl dL_law_714 ?_
  refine qi_iload_n hC 3 rfl rfl dL_law_715 ?_
  refine qi_iconst hC dL_law_716 kn_iconst_1 ?_
  refine qi_iadd hC dL_law_717 ?_
  refine qi_sld hC hL (lc_in i 1 (by omega) hLs) dL_law_718 ?_
  refine qi_callVi hC (as := [.int (xs (nI i + (1 : Int32)).toNatClampNeg)]) (c_X7_cost _ _ m1 (xs (nI i + (1 : Int32)).toNatClampNeg) ((r, m2)) h2) kl_L_86 sh_36 kc_X7_cost rfl rfl (by decide) (by decide) (Nat.le_of_ble_eq_true rfl) dL_law_719 ?_
  exact qi_icmp_eq (tgt := 1524) hC (by decide) dL_law_722 (fun _ => hk m2 h3) (fun h => absurd rfl h)
def qaP_rules (Rel : qaM → Prop) : Prop := ∀ (m : qaM) (a1 a2 : Int32), Rel m → ∃ (r : Int32) (m1 : qaM) (m2 : qaM), f_X6_rules m a1 a2 = some (r, m1) ∧ f_X7_rules m1 a1 a2 = some (r, m2) ∧ Rel m2
set_option maxRecDepth 100000 in
set_option maxHeartbeats 4000000 in
theorem lc_rules {X : qaX} {l : Launch} {Y : qaY} {b L : Nat} {xs : Nat → Int32} {m : qaM} (hC : QC X l Y cL_law RL 4 1000) (hL : QLw X b L xs) {i : Nat} (hi : i + 6 < L) (hLs : L ≤ 3584) {Rel : qaM → Prop} (hRel : Rel m) (hP : qaP_rules Rel) (hk : ∀ m2 : qaM, Rel m2 → QG X Y 4 m2 1524 [(0, .ref b), (1, .ref (Y.2.2.1 0)), (2, .ref (Y.2.2.1 36)), (3, .int (nI i))] []) : QG X Y 4 m 727 [(0, .ref b), (1, .ref (Y.2.2.1 0)), (2, .ref (Y.2.2.1 36)), (3, .int (nI i))] [] := by
  obtain ⟨r, m1, m2, h1, h2, h3⟩ := hP m (xs (nI i + (1 : Int32)).toNatClampNeg) (xs (nI i + (2 : Int32)).toNatClampNeg) hRel
  refine qi_aload_n hC 1 rfl rfl dL_law_727 ?_
  refine qi_aload_n hC 0 rfl rfl dL_law_728 ?_
  refine qi_iload_n hC 3 rfl rfl dL_law_729 ?_
  refine qi_iconst hC dL_law_730 kn_iconst_1 ?_
  refine qi_iadd hC dL_law_731 ?_
  refine qi_sld hC hL (lc_in i 1 (by omega) hLs) dL_law_732 ?_
  refine qi_aload_n hC 0 rfl rfl dL_law_733 ?_
  refine qi_iload_n hC 3 rfl rfl dL_law_734 ?_
  refine qi_iconst hC dL_law_735 kn_iconst_2 ?_
  refine qi_iadd hC dL_law_736 ?_
  refine qi_sld hC hL (lc_in i 2 (by omega) hLs) dL_law_737 ?_
  refine qi_callVi hC (as := [.int (xs (nI i + (1 : Int32)).toNatClampNeg), .int (xs (nI i + (2 : Int32)).toNatClampNeg)]) (c_X6_rules _ _ m (xs (nI i + (1 : Int32)).toNatClampNeg) (xs (nI i + (2 : Int32)).toNatClampNeg) ((r, m1)) h1) kl_L_87 sh_0 kc_X6_rules rfl rfl (by decide) (by decide) (Nat.le_of_ble_eq_true rfl) dL_law_738 ?_
  refine qi_aload_n hC 2 rfl rfl dL_law_741 ?_
  refine qi_aload_n hC 0 rfl rfl dL_law_742 ?_
  refine qi_iload_n hC 3 rfl rfl dL_law_743 ?_
  refine qi_iconst hC dL_law_744 kn_iconst_1 ?_
  refine qi_iadd hC dL_law_745 ?_
  refine qi_sld hC hL (lc_in i 1 (by omega) hLs) dL_law_746 ?_
  refine qi_aload_n hC 0 rfl rfl dL_law_747 ?_
  refine qi_iload_n hC 3 rfl rfl dL_law_748 ?_
  refine qi_iconst hC dL_law_749 kn_iconst_2 ?_
  refine qi_iadd hC dL_law_750 ?_
  refine qi_sld hC hL (lc_in i 2 (by omega) hLs) dL_law_751 ?_
  refine qi_callVi hC (as := [.int (xs (nI i + (1 : Int32)).toNatClampNeg), .int (xs (nI i + (2 : Int32)).toNatClampNeg)]) (c_X7_rules _ _ m1 (xs (nI i + (1 : Int32)).toNatClampNeg) (xs (nI i + (2 : Int32)).toNatClampNeg) ((r, m2)) h2) kl_L_90 sh_36 kc_X7_rules rfl rfl (by decide) (by decide) (Nat.le_of_ble_eq_true rfl) dL_law_752 ?_
  exact qi_icmp_eq (tgt := 1524) hC (by decide) dL_law_755 (fun _ => hk m2 h3) (fun h => absurd rfl h)
def qaP_which (Rel : qaM → Prop) : Prop := ∀ (m : qaM) (a1 : Int32), Rel m → ∃ (r : Int32) (m1 : qaM) (m2 : qaM), f_X6_which m a1 = some (r, m1) ∧ f_X7_which m1 a1 = some (r, m2) ∧ Rel m2
set_option maxRecDepth 100000 in
set_option maxHeartbeats 4000000 in
theorem lc_which {X : qaX} {l : Launch} {Y : qaY} {b L : Nat} {xs : Nat → Int32} {m : qaM} (hC : QC X l Y cL_law RL 4 1000) (hL : QLw X b L xs) {i : Nat} (hi : i + 6 < L) (hLs : L ≤ 3584) {Rel : qaM → Prop} (hRel : Rel m) (hP : qaP_which Rel) (hk : ∀ m2 : qaM, Rel m2 → QG X Y 4 m2 1524 [(0, .ref b), (1, .ref (Y.2.2.1 0)), (2, .ref (Y.2.2.1 36)), (3, .int (nI i))] []) : QG X Y 4 m 760 [(0, .ref b), (1, .ref (Y.2.2.1 0)), (2, .ref (Y.2.2.1 36)), (3, .int (nI i))] [] := by
  obtain ⟨r, m1, m2, h1, h2, h3⟩ := hP m (xs (nI i + (1 : Int32)).toNatClampNeg) hRel
  refine qi_aload_n hC 1 rfl rfl dL_law_760 ?_
  refine qi_aload_n hC 0 rfl rfl dL_law_761 ?_
  refine qi_iload_n hC 3 rfl rfl dL_law_762 ?_
  refine qi_iconst hC dL_law_763 kn_iconst_1 ?_
  refine qi_iadd hC dL_law_764 ?_
  refine qi_sld hC hL (lc_in i 1 (by omega) hLs) dL_law_765 ?_
  refine qi_callVi hC (as := [.int (xs (nI i + (1 : Int32)).toNatClampNeg)]) (c_X6_which _ _ m (xs (nI i + (1 : Int32)).toNatClampNeg) ((r, m1)) h1) kl_L_91 sh_0 kc_X6_which rfl rfl (by decide) (by decide) (Nat.le_of_ble_eq_true rfl) dL_law_766 ?_
  refine qi_aload_n hC 2 rfl rfl dL_law_769 ?_
  refine qi_aload_n hC 0 rfl rfl dL_law_770 ?_
  refine qi_iload_n hC 3 rfl rfl dL_law_771 ?_
  refine qi_iconst hC dL_law_772 kn_iconst_1 ?_
  refine qi_iadd hC dL_law_773 ?_
  refine qi_sld hC hL (lc_in i 1 (by omega) hLs) dL_law_774 ?_
  refine qi_callVi hC (as := [.int (xs (nI i + (1 : Int32)).toNatClampNeg)]) (c_X7_which _ _ m1 (xs (nI i + (1 : Int32)).toNatClampNeg) ((r, m2)) h2) kl_L_94 sh_36 kc_X7_which rfl rfl (by decide) (by decide) (Nat.le_of_ble_eq_true rfl) dL_law_775 ?_
  exact qi_icmp_eq (tgt := 1524) hC (by decide) dL_law_778 (fun _ => hk m2 h3) (fun h => absurd rfl h)
def qaP_when (Rel : qaM → Prop) : Prop := ∀ (m : qaM) (a1 a2 a3 : Int32), Rel m → ∃ (r : Int32) (m1 : qaM) (m2 : qaM), f_X6_when m a1 a2 a3 = some (r, m1) ∧ f_X7_when m1 a1 a2 a3 = some (r, m2) ∧ Rel m2
set_option maxRecDepth 100000 in
set_option maxHeartbeats 4000000 in
theorem lc_when {X : qaX} {l : Launch} {Y : qaY} {b L : Nat} {xs : Nat → Int32} {m : qaM} (hC : QC X l Y cL_law RL 4 1000) (hL : QLw X b L xs) {i : Nat} (hi : i + 6 < L) (hLs : L ≤ 3584) {Rel : qaM → Prop} (hRel : Rel m) (hP : qaP_when Rel) (hk : ∀ m2 : qaM, Rel m2 → QG X Y 4 m2 1524 [(0, .ref b), (1, .ref (Y.2.2.1 0)), (2, .ref (Y.2.2.1 36)), (3, .int (nI i))] []) : QG X Y 4 m 783 [(0, .ref b), (1, .ref (Y.2.2.1 0)), (2, .ref (Y.2.2.1 36)), (3, .int (nI i))] [] := by
  obtain ⟨r, m1, m2, h1, h2, h3⟩ := hP m (xs (nI i + (1 : Int32)).toNatClampNeg) (xs (nI i + (2 : Int32)).toNatClampNeg) (xs (nI i + (3 : Int32)).toNatClampNeg) hRel
  refine qi_aload_n hC 1 rfl rfl dL_law_783 ?_
  refine qi_aload_n hC 0 rfl rfl dL_law_784 ?_
  refine qi_iload_n hC 3 rfl rfl dL_law_785 ?_
  refine qi_iconst hC dL_law_786 kn_iconst_1 ?_
  refine qi_iadd hC dL_law_787 ?_
  refine qi_sld hC hL (lc_in i 1 (by omega) hLs) dL_law_788 ?_
  refine qi_aload_n hC 0 rfl rfl dL_law_789 ?_
  refine qi_iload_n hC 3 rfl rfl dL_law_790 ?_
  refine qi_iconst hC dL_law_791 kn_iconst_2 ?_
  refine qi_iadd hC dL_law_792 ?_
  refine qi_sld hC hL (lc_in i 2 (by omega) hLs) dL_law_793 ?_
  refine qi_aload_n hC 0 rfl rfl dL_law_794 ?_
  refine qi_iload_n hC 3 rfl rfl dL_law_795 ?_
  refine qi_iconst hC dL_law_796 kn_iconst_3 ?_
  refine qi_iadd hC dL_law_797 ?_
  refine qi_sld hC hL (lc_in i 3 (by omega) hLs) dL_law_798 ?_
  refine qi_callVi hC (as := [.int (xs (nI i + (1 : Int32)).toNatClampNeg), .int (xs (nI i + (2 : Int32)).toNatClampNeg), .int (xs (nI i + (3 : Int32)).toNatClampNeg)]) (c_X6_when _ _ m (xs (nI i + (1 : Int32)).toNatClampNeg) (xs (nI i + (2 : Int32)).toNatClampNeg) (xs (nI i + (3 : Int32)).toNatClampNeg) ((r, m1)) h1) kl_L_95 sh_0 kc_X6_when rfl rfl (by decide) (by decide) (Nat.le_of_ble_eq_true rfl) dL_law_799 ?_
  refine qi_aload_n hC 2 rfl rfl dL_law_802 ?_
  refine qi_aload_n hC 0 rfl rfl dL_law_803 ?_
  refine qi_iload_n hC 3 rfl rfl dL_law_804 ?_
  refine qi_iconst hC dL_law_805 kn_iconst_1 ?_
  refine qi_iadd hC dL_law_806 ?_
  refine qi_sld hC hL (lc_in i 1 (by omega) hLs) dL_law_807 ?_
  refine qi_aload_n hC 0 rfl rfl dL_law_808 ?_
  refine qi_iload_n hC 3 rfl rfl dL_law_809 ?_
  refine qi_iconst hC dL_law_810 kn_iconst_2 ?_
  refine qi_iadd hC dL_law_811 ?_
  refine qi_sld hC hL (lc_in i 2 (by omega) hLs) dL_law_812 ?_
  refine qi_aload_n hC 0 rfl rfl dL_law_813 ?_
  refine qi_iload_n hC 3 rfl rfl dL_law_814 ?_
  refine qi_iconst hC dL_law_815 kn_iconst_3 ?_
  refine qi_iadd hC dL_law_816 ?_
  refine qi_sld hC hL (lc_in i 3 (by omega) hLs) dL_law_817 ?_
  refine qi_callVi hC (as := [.int (xs (nI i + (1 : Int32)).toNatClampNeg), .int (xs (nI i + (2 : Int32)).toNatClampNeg), .int (xs (nI i + (3 : Int32)).toNatClampNeg)]) (c_X7_when _ _ m1 (xs (nI i + (1 : Int32)).toNatClampNeg) (xs (nI i + (2 : Int32)).toNatClampNeg) (xs (nI i + (3 : Int32)).toNatClampNeg) ((r, m2)) h2) kl_L_98 sh_36 kc_X7_when rfl rfl (by decide) (by decide) (Nat.le_of_ble_eq_true rfl) dL_law_818 ?_
  exact qi_icmp_eq (tgt := 1524) hC (by decide) dL_law_821 (fun _ => hk m2 h3) (fun h => absurd rfl h)
def qaP_enough (Rel : qaM → Prop) : Prop := ∀ (m : qaM) (a1 : Int32), Rel m → ∃ (r : Int32) (m1 : qaM) (m2 : qaM), f_X6_enough m a1 = some (r, m1) ∧ f_X7_enough m1 a1 = some (r, m2) ∧ Rel m2
set_option maxRecDepth 100000 in
set_option maxHeartbeats 4000000 in
theorem lc_enough {X : qaX} {l : Launch} {Y : qaY} {b L : Nat} {xs : Nat → Int32} {m : qaM} (hC : QC X l Y cL_law RL 4 1000) (hL : QLw X b L xs) {i : Nat} (hi : i + 6 < L) (hLs : L ≤ 3584) {Rel : qaM → Prop} (hRel : Rel m) (hP : qaP_enough Rel) (hk : ∀ m2 : qaM, Rel m2 → QG X Y 4 m2 1524 [(0, .ref b), (1, .ref (Y.2.2.1 0)), (2, .ref (Y.2.2.1 36)), (3, .int (nI i))] []) : QG X Y 4 m 826 [(0, .ref b), (1, .ref (Y.2.2.1 0)), (2, .ref (Y.2.2.1 36)), (3, .int (nI i))] [] := by
  obtain ⟨r, m1, m2, h1, h2, h3⟩ := hP m (xs (nI i + (1 : Int32)).toNatClampNeg) hRel
  refine qi_aload_n hC 1 rfl rfl dL_law_826 ?_
  refine qi_aload_n hC 0 rfl rfl dL_law_827 ?_
  refine qi_iload_n hC 3 rfl rfl dL_law_828 ?_
  refine qi_iconst hC dL_law_829 kn_iconst_1 ?_
  refine qi_iadd hC dL_law_830 ?_
  refine qi_sld hC hL (lc_in i 1 (by omega) hLs) dL_law_831 ?_
  refine qi_callVi hC (as := [.int (xs (nI i + (1 : Int32)).toNatClampNeg)]) (c_X6_enough _ _ m (xs (nI i + (1 : Int32)).toNatClampNeg) ((r, m1)) h1) kl_L_99 sh_0 kc_X6_enough rfl rfl (by decide) (by decide) (Nat.le_of_ble_eq_true rfl) dL_law_832 ?_
  refine qi_aload_n hC 2 rfl rfl dL_law_835 ?_
  refine qi_aload_n hC 0 rfl rfl dL_law_836 ?_
  refine qi_iload_n hC 3 rfl rfl dL_law_837 ?_
  refine qi_iconst hC dL_law_838 kn_iconst_1 ?_
  refine qi_iadd hC dL_law_839 ?_
  refine qi_sld hC hL (lc_in i 1 (by omega) hLs) dL_law_840 ?_
  refine qi_callVi hC (as := [.int (xs (nI i + (1 : Int32)).toNatClampNeg)]) (c_X7_enough _ _ m1 (xs (nI i + (1 : Int32)).toNatClampNeg) ((r, m2)) h2) kl_L_102 sh_36 kc_X7_enough rfl rfl (by decide) (by decide) (Nat.le_of_ble_eq_true rfl) dL_law_841 ?_
  exact qi_icmp_eq (tgt := 1524) hC (by decide) dL_law_844 (fun _ => hk m2 h3) (fun h => absurd rfl h)
def qaP_feast (Rel : qaM → Prop) : Prop := ∀ (m : qaM) (a1 a2 a3 : Int32), Rel m → ∃ (r : Int32) (m1 : qaM) (m2 : qaM), f_X6_feast m a1 a2 a3 = some (r, m1) ∧ f_X7_feast m1 a1 a2 a3 = some (r, m2) ∧ Rel m2
set_option maxRecDepth 100000 in
set_option maxHeartbeats 4000000 in
theorem lc_feast {X : qaX} {l : Launch} {Y : qaY} {b L : Nat} {xs : Nat → Int32} {m : qaM} (hC : QC X l Y cL_law RL 4 1000) (hL : QLw X b L xs) {i : Nat} (hi : i + 6 < L) (hLs : L ≤ 3584) {Rel : qaM → Prop} (hRel : Rel m) (hP : qaP_feast Rel) (hk : ∀ m2 : qaM, Rel m2 → QG X Y 4 m2 1524 [(0, .ref b), (1, .ref (Y.2.2.1 0)), (2, .ref (Y.2.2.1 36)), (3, .int (nI i))] []) : QG X Y 4 m 849 [(0, .ref b), (1, .ref (Y.2.2.1 0)), (2, .ref (Y.2.2.1 36)), (3, .int (nI i))] [] := by
  obtain ⟨r, m1, m2, h1, h2, h3⟩ := hP m (xs (nI i + (1 : Int32)).toNatClampNeg) (xs (nI i + (2 : Int32)).toNatClampNeg) (xs (nI i + (3 : Int32)).toNatClampNeg) hRel
  refine qi_aload_n hC 1 rfl rfl dL_law_849 ?_
  refine qi_aload_n hC 0 rfl rfl dL_law_850 ?_
  refine qi_iload_n hC 3 rfl rfl dL_law_851 ?_
  refine qi_iconst hC dL_law_852 kn_iconst_1 ?_
  refine qi_iadd hC dL_law_853 ?_
  refine qi_sld hC hL (lc_in i 1 (by omega) hLs) dL_law_854 ?_
  refine qi_aload_n hC 0 rfl rfl dL_law_855 ?_
  refine qi_iload_n hC 3 rfl rfl dL_law_856 ?_
  refine qi_iconst hC dL_law_857 kn_iconst_2 ?_
  refine qi_iadd hC dL_law_858 ?_
  refine qi_sld hC hL (lc_in i 2 (by omega) hLs) dL_law_859 ?_
  refine qi_aload_n hC 0 rfl rfl dL_law_860 ?_
  refine qi_iload_n hC 3 rfl rfl dL_law_861 ?_
  refine qi_iconst hC dL_law_862 kn_iconst_3 ?_
  refine qi_iadd hC dL_law_863 ?_
  refine qi_sld hC hL (lc_in i 3 (by omega) hLs) dL_law_864 ?_
  refine qi_callVi hC (as := [.int (xs (nI i + (1 : Int32)).toNatClampNeg), .int (xs (nI i + (2 : Int32)).toNatClampNeg), .int (xs (nI i + (3 : Int32)).toNatClampNeg)]) (c_X6_feast _ _ m (xs (nI i + (1 : Int32)).toNatClampNeg) (xs (nI i + (2 : Int32)).toNatClampNeg) (xs (nI i + (3 : Int32)).toNatClampNeg) ((r, m1)) h1) kl_L_103 sh_0 kc_X6_feast rfl rfl (by decide) (by decide) (Nat.le_of_ble_eq_true rfl) dL_law_865 ?_
  refine qi_aload_n hC 2 rfl rfl dL_law_868 ?_
  refine qi_aload_n hC 0 rfl rfl dL_law_869 ?_
  refine qi_iload_n hC 3 rfl rfl dL_law_870 ?_
  refine qi_iconst hC dL_law_871 kn_iconst_1 ?_
  refine qi_iadd hC dL_law_872 ?_
  refine qi_sld hC hL (lc_in i 1 (by omega) hLs) dL_law_873 ?_
  refine qi_aload_n hC 0 rfl rfl dL_law_874 ?_
  refine qi_iload_n hC 3 rfl rfl dL_law_875 ?_
  refine qi_iconst hC dL_law_876 kn_iconst_2 ?_
  refine qi_iadd hC dL_law_877 ?_
  refine qi_sld hC hL (lc_in i 2 (by omega) hLs) dL_law_878 ?_
  refine qi_aload_n hC 0 rfl rfl dL_law_879 ?_
  refine qi_iload_n hC 3 rfl rfl dL_law_880 ?_
  refine qi_iconst hC dL_law_881 kn_iconst_3 ?_
  refine qi_iadd hC dL_law_882 ?_
  refine qi_sld hC hL (lc_in i 3 (by omega) hLs) dL_law_883 ?_
  refine qi_callVi hC (as := [.int (xs (nI i + (1 : Int32)).toNatClampNeg), .int (xs (nI i + (2 : Int32)).toNatClampNeg), .int (xs (nI i + (3 : Int32)).toNatClampNeg)]) (c_X7_feast _ _ m1 (xs (nI i + (1 : Int32)).toNatClampNeg) (xs (nI i + (2 : Int32)).toNatClampNeg) (xs (nI i + (3 : Int32)).toNatClampNeg) ((r, m2)) h2) kl_L_106 sh_36 kc_X7_feast rfl rfl (by decide) (by decide) (Nat.le_of_ble_eq_true rfl) dL_law_884 ?_
  exact qi_icmp_eq (tgt := 1524) hC (by decide) dL_law_887 (fun _ => hk m2 h3) (fun h => absurd rfl h)
def qaP_laundry (Rel : qaM → Prop) : Prop := ∀ (m : qaM) (a1 : Int32), Rel m → ∃ (r : Int32) (m1 : qaM) (m2 : qaM), f_X6_laundry m a1 = some (r, m1) ∧ f_X7_laundry m1 a1 = some (r, m2) ∧ Rel m2
set_option maxRecDepth 100000 in
set_option maxHeartbeats 4000000 in
theorem lc_laundry {X : qaX} {l : Launch} {Y : qaY} {b L : Nat} {xs : Nat → Int32} {m : qaM} (hC : QC X l Y cL_law RL 4 1000) (hL : QLw X b L xs) {i : Nat} (hi : i + 6 < L) (hLs : L ≤ 3584) {Rel : qaM → Prop} (hRel : Rel m) (hP : qaP_laundry Rel) (hk : ∀ m2 : qaM, Rel m2 → QG X Y 4 m2 1524 [(0, .ref b), (1, .ref (Y.2.2.1 0)), (2, .ref (Y.2.2.1 36)), (3, .int (nI i))] []) : QG X Y 4 m 892 [(0, .ref b), (1, .ref (Y.2.2.1 0)), (2, .ref (Y.2.2.1 36)), (3, .int (nI i))] [] := by
  obtain ⟨r, m1, m2, h1, h2, h3⟩ := hP m (xs (nI i + (1 : Int32)).toNatClampNeg) hRel
  refine qi_aload_n hC 1 rfl rfl dL_law_892 ?_
  refine qi_aload_n hC 0 rfl rfl dL_law_893 ?_
  refine qi_iload_n hC 3 rfl rfl dL_law_894 ?_
  refine qi_iconst hC dL_law_895 kn_iconst_1 ?_
  refine qi_iadd hC dL_law_896 ?_
  refine qi_sld hC hL (lc_in i 1 (by omega) hLs) dL_law_897 ?_
  refine qi_callVi hC (as := [.int (xs (nI i + (1 : Int32)).toNatClampNeg)]) (c_X6_laundry _ _ m (xs (nI i + (1 : Int32)).toNatClampNeg) ((r, m1)) h1) kl_L_107 sh_0 kc_X6_laundry rfl rfl (by decide) (by decide) (Nat.le_of_ble_eq_true rfl) dL_law_898 ?_
  refine qi_aload_n hC 2 rfl rfl dL_law_901 ?_
  refine qi_aload_n hC 0 rfl rfl dL_law_902 ?_
  refine qi_iload_n hC 3 rfl rfl dL_law_903 ?_
  refine qi_iconst hC dL_law_904 kn_iconst_1 ?_
  refine qi_iadd hC dL_law_905 ?_
  refine qi_sld hC hL (lc_in i 1 (by omega) hLs) dL_law_906 ?_
  refine qi_callVi hC (as := [.int (xs (nI i + (1 : Int32)).toNatClampNeg)]) (c_X7_laundry _ _ m1 (xs (nI i + (1 : Int32)).toNatClampNeg) ((r, m2)) h2) kl_L_110 sh_36 kc_X7_laundry rfl rfl (by decide) (by decide) (Nat.le_of_ble_eq_true rfl) dL_law_907 ?_
  exact qi_icmp_eq (tgt := 1524) hC (by decide) dL_law_910 (fun _ => hk m2 h3) (fun h => absurd rfl h)
def qaP_judge (Rel : qaM → Prop) : Prop := ∀ (m : qaM) (a1 a2 : Int32), Rel m → ∃ (r : Int32) (m1 : qaM) (m2 : qaM), f_X6_judge m a1 a2 = some (r, m1) ∧ f_X7_judge m1 a1 a2 = some (r, m2) ∧ Rel m2
set_option maxRecDepth 100000 in
set_option maxHeartbeats 4000000 in
theorem lc_judge {X : qaX} {l : Launch} {Y : qaY} {b L : Nat} {xs : Nat → Int32} {m : qaM} (hC : QC X l Y cL_law RL 4 1000) (hL : QLw X b L xs) {i : Nat} (hi : i + 6 < L) (hLs : L ≤ 3584) {Rel : qaM → Prop} (hRel : Rel m) (hP : qaP_judge Rel) (hk : ∀ m2 : qaM, Rel m2 → QG X Y 4 m2 1524 [(0, .ref b), (1, .ref (Y.2.2.1 0)), (2, .ref (Y.2.2.1 36)), (3, .int (nI i))] []) : QG X Y 4 m 915 [(0, .ref b), (1, .ref (Y.2.2.1 0)), (2, .ref (Y.2.2.1 36)), (3, .int (nI i))] [] := by
  obtain ⟨r, m1, m2, h1, h2, h3⟩ := hP m (xs (nI i + (1 : Int32)).toNatClampNeg) (xs (nI i + (2 : Int32)).toNatClampNeg) hRel
  refine qi_aload_n hC 1 rfl rfl dL_law_915 ?_
  refine qi_aload_n hC 0 rfl rfl dL_law_916 ?_
  refine qi_iload_n hC 3 rfl rfl dL_law_917 ?_
  refine qi_iconst hC dL_law_918 kn_iconst_1 ?_
  refine qi_iadd hC dL_law_919 ?_
  refine qi_sld hC hL (lc_in i 1 (by omega) hLs) dL_law_920 ?_
  refine qi_aload_n hC 0 rfl rfl dL_law_921 ?_
  refine qi_iload_n hC 3 rfl rfl dL_law_922 ?_
  refine qi_iconst hC dL_law_923 kn_iconst_2 ?_
  refine qi_iadd hC dL_law_924 ?_
  refine qi_sld hC hL (lc_in i 2 (by omega) hLs) dL_law_925 ?_
  refine qi_callVi hC (as := [.int (xs (nI i + (1 : Int32)).toNatClampNeg), .int (xs (nI i + (2 : Int32)).toNatClampNeg)]) (c_X6_judge _ _ m (xs (nI i + (1 : Int32)).toNatClampNeg) (xs (nI i + (2 : Int32)).toNatClampNeg) ((r, m1)) h1) kl_L_111 sh_0 kc_X6_judge rfl rfl (by decide) (by decide) (Nat.le_of_ble_eq_true rfl) dL_law_926 ?_
  refine qi_aload_n hC 2 rfl rfl dL_law_929 ?_
  refine qi_aload_n hC 0 rfl rfl dL_law_930 ?_
  refine qi_iload_n hC 3 rfl rfl dL_law_931 ?_
  refine qi_iconst hC dL_law_932 kn_iconst_1 ?_
  refine qi_iadd hC dL_law_933 ?_
  refine qi_sld hC hL (lc_in i 1 (by omega) hLs) dL_law_934 ?_
  refine qi_aload_n hC 0 rfl rfl dL_law_935 ?_
  refine qi_iload_n hC 3 rfl rfl dL_law_936 ?_
  refine qi_iconst hC dL_law_937 kn_iconst_2 ?_
  refine qi_iadd hC dL_law_938 ?_
  refine qi_sld hC hL (lc_in i 2 (by omega) hLs) dL_law_939 ?_
  refine qi_callVi hC (as := [.int (xs (nI i + (1 : Int32)).toNatClampNeg), .int (xs (nI i + (2 : Int32)).toNatClampNeg)]) (c_X7_judge _ _ m1 (xs (nI i + (1 : Int32)).toNatClampNeg) (xs (nI i + (2 : Int32)).toNatClampNeg) ((r, m2)) h2) kl_L_114 sh_36 kc_X7_judge rfl rfl (by decide) (by decide) (Nat.le_of_ble_eq_true rfl) dL_law_940 ?_
  exact qi_icmp_eq (tgt := 1524) hC (by decide) dL_law_943 (fun _ => hk m2 h3) (fun h => absurd rfl h)
def qaP_rulesOf (Rel : qaM → Prop) : Prop := ∀ (m : qaM) (a1 a2 : Int32), Rel m → ∃ (r : Int32) (m1 : qaM) (m2 : qaM), f_X6_rulesOf m a1 a2 = some (r, m1) ∧ f_X7_rulesOf m1 a1 a2 = some (r, m2) ∧ Rel m2
set_option maxRecDepth 100000 in
set_option maxHeartbeats 4000000 in
theorem lc_rulesOf {X : qaX} {l : Launch} {Y : qaY} {b L : Nat} {xs : Nat → Int32} {m : qaM} (hC : QC X l Y cL_law RL 4 1000) (hL : QLw X b L xs) {i : Nat} (hi : i + 6 < L) (hLs : L ≤ 3584) {Rel : qaM → Prop} (hRel : Rel m) (hP : qaP_rulesOf Rel) (hk : ∀ m2 : qaM, Rel m2 → QG X Y 4 m2 1524 [(0, .ref b), (1, .ref (Y.2.2.1 0)), (2, .ref (Y.2.2.1 36)), (3, .int (nI i))] []) : QG X Y 4 m 948 [(0, .ref b), (1, .ref (Y.2.2.1 0)), (2, .ref (Y.2.2.1 36)), (3, .int (nI i))] [] := by
  obtain ⟨r, m1, m2, h1, h2, h3⟩ := hP m (xs (nI i + (1 : Int32)).toNatClampNeg) (xs (nI i + (2 : Int32)).toNatClampNeg) hRel
  refine qi_aload_n hC 1 rfl rfl dL_law_948 ?_
  refine qi_aload_n hC 0 rfl rfl dL_law_949 ?_
  refine qi_iload_n hC 3 rfl rfl dL_law_950 ?_
  refine qi_iconst hC dL_law_951 kn_iconst_1 ?_
  refine qi_iadd hC dL_law_952 ?_
  refine qi_sld hC hL (lc_in i 1 (by omega) hLs) dL_law_953 ?_
  refine qi_aload_n hC 0 rfl rfl dL_law_954 ?_
  refine qi_iload_n hC 3 rfl rfl dL_law_955 ?_
  refine qi_iconst hC dL_law_956 kn_iconst_2 ?_
  refine qi_iadd hC dL_law_957 ?_
  refine qi_sld hC hL (lc_in i 2 (by omega) hLs) dL_law_958 ?_
  refine qi_callVi hC (as := [.int (xs (nI i + (1 : Int32)).toNatClampNeg), .int (xs (nI i + (2 : Int32)).toNatClampNeg)]) (c_X6_rulesOf _ _ m (xs (nI i + (1 : Int32)).toNatClampNeg) (xs (nI i + (2 : Int32)).toNatClampNeg) ((r, m1)) h1) kl_L_115 sh_0 kc_X6_rulesOf rfl rfl (by decide) (by decide) (Nat.le_of_ble_eq_true rfl) dL_law_959 ?_
  refine qi_aload_n hC 2 rfl rfl dL_law_962 ?_
  refine qi_aload_n hC 0 rfl rfl dL_law_963 ?_
  refine qi_iload_n hC 3 rfl rfl dL_law_964 ?_
  refine qi_iconst hC dL_law_965 kn_iconst_1 ?_
  refine qi_iadd hC dL_law_966 ?_
  refine qi_sld hC hL (lc_in i 1 (by omega) hLs) dL_law_967 ?_
  refine qi_aload_n hC 0 rfl rfl dL_law_968 ?_
  refine qi_iload_n hC 3 rfl rfl dL_law_969 ?_
  refine qi_iconst hC dL_law_970 kn_iconst_2 ?_
  refine qi_iadd hC dL_law_971 ?_
  refine qi_sld hC hL (lc_in i 2 (by omega) hLs) dL_law_972 ?_
  refine qi_callVi hC (as := [.int (xs (nI i + (1 : Int32)).toNatClampNeg), .int (xs (nI i + (2 : Int32)).toNatClampNeg)]) (c_X7_rulesOf _ _ m1 (xs (nI i + (1 : Int32)).toNatClampNeg) (xs (nI i + (2 : Int32)).toNatClampNeg) ((r, m2)) h2) kl_L_118 sh_36 kc_X7_rulesOf rfl rfl (by decide) (by decide) (Nat.le_of_ble_eq_true rfl) dL_law_973 ?_
  exact qi_icmp_eq (tgt := 1524) hC (by decide) dL_law_976 (fun _ => hk m2 h3) (fun h => absurd rfl h)
def qaP_kinds (Rel : qaM → Prop) : Prop := ∀ (m : qaM) (a1 a2 a3 : Int32), Rel m → ∃ (r : Int32) (m1 : qaM) (m2 : qaM), f_X6_kinds m a1 a2 a3 = some (r, m1) ∧ f_X7_kinds m1 a1 a2 a3 = some (r, m2) ∧ Rel m2
set_option maxRecDepth 100000 in
set_option maxHeartbeats 4000000 in
theorem lc_kinds {X : qaX} {l : Launch} {Y : qaY} {b L : Nat} {xs : Nat → Int32} {m : qaM} (hC : QC X l Y cL_law RL 4 1000) (hL : QLw X b L xs) {i : Nat} (hi : i + 6 < L) (hLs : L ≤ 3584) {Rel : qaM → Prop} (hRel : Rel m) (hP : qaP_kinds Rel) (hk : ∀ m2 : qaM, Rel m2 → QG X Y 4 m2 1524 [(0, .ref b), (1, .ref (Y.2.2.1 0)), (2, .ref (Y.2.2.1 36)), (3, .int (nI i))] []) : QG X Y 4 m 981 [(0, .ref b), (1, .ref (Y.2.2.1 0)), (2, .ref (Y.2.2.1 36)), (3, .int (nI i))] [] := by
  obtain ⟨r, m1, m2, h1, h2, h3⟩ := hP m (xs (nI i + (1 : Int32)).toNatClampNeg) (xs (nI i + (2 : Int32)).toNatClampNeg) (xs (nI i + (3 : Int32)).toNatClampNeg) hRel
  refine qi_aload_n hC 1 rfl rfl dL_law_981 ?_
  refine qi_aload_n hC 0 rfl rfl dL_law_982 ?_
  refine qi_iload_n hC 3 rfl rfl dL_law_983 ?_
  refine qi_iconst hC dL_law_984 kn_iconst_1 ?_
  refine qi_iadd hC dL_law_985 ?_
  refine qi_sld hC hL (lc_in i 1 (by omega) hLs) dL_law_986 ?_
  refine qi_aload_n hC 0 rfl rfl dL_law_987 ?_
  refine qi_iload_n hC 3 rfl rfl dL_law_988 ?_
  refine qi_iconst hC dL_law_989 kn_iconst_2 ?_
  refine qi_iadd hC dL_law_990 ?_
  refine qi_sld hC hL (lc_in i 2 (by omega) hLs) dL_law_991 ?_
  refine qi_aload_n hC 0 rfl rfl dL_law_992 ?_
  refine qi_iload_n hC 3 rfl rfl dL_law_993 ?_
  refine qi_iconst hC dL_law_994 kn_iconst_3 ?_
  refine qi_iadd hC dL_law_995 ?_
  refine qi_sld hC hL (lc_in i 3 (by omega) hLs) dL_law_996 ?_
  refine qi_callVi hC (as := [.int (xs (nI i + (1 : Int32)).toNatClampNeg), .int (xs (nI i + (2 : Int32)).toNatClampNeg), .int (xs (nI i + (3 : Int32)).toNatClampNeg)]) (c_X6_kinds _ _ m (xs (nI i + (1 : Int32)).toNatClampNeg) (xs (nI i + (2 : Int32)).toNatClampNeg) (xs (nI i + (3 : Int32)).toNatClampNeg) ((r, m1)) h1) kl_L_119 sh_0 kc_X6_kinds rfl rfl (by decide) (by decide) (Nat.le_of_ble_eq_true rfl) dL_law_997 ?_
  refine qi_aload_n hC 2 rfl rfl dL_law_1000 ?_
  refine qi_aload_n hC 0 rfl rfl dL_law_1001 ?_
  refine qi_iload_n hC 3 rfl rfl dL_law_1002 ?_
  refine qi_iconst hC dL_law_1003 kn_iconst_1 ?_
  refine qi_iadd hC dL_law_1004 ?_
  refine qi_sld hC hL (lc_in i 1 (by omega) hLs) dL_law_1005 ?_
  refine qi_aload_n hC 0 rfl rfl dL_law_1006 ?_
  refine qi_iload_n hC 3 rfl rfl dL_law_1007 ?_
  refine qi_iconst hC dL_law_1008 kn_iconst_2 ?_
  refine qi_iadd hC dL_law_1009 ?_
  refine qi_sld hC hL (lc_in i 2 (by omega) hLs) dL_law_1010 ?_
  refine qi_aload_n hC 0 rfl rfl dL_law_1011 ?_
  refine qi_iload_n hC 3 rfl rfl dL_law_1012 ?_
  refine qi_iconst hC dL_law_1013 kn_iconst_3 ?_
  refine qi_iadd hC dL_law_1014 ?_
  refine qi_sld hC hL (lc_in i 3 (by omega) hLs) dL_law_1015 ?_
  refine qi_callVi hC (as := [.int (xs (nI i + (1 : Int32)).toNatClampNeg), .int (xs (nI i + (2 : Int32)).toNatClampNeg), .int (xs (nI i + (3 : Int32)).toNatClampNeg)]) (c_X7_kinds _ _ m1 (xs (nI i + (1 : Int32)).toNatClampNeg) (xs (nI i + (2 : Int32)).toNatClampNeg) (xs (nI i + (3 : Int32)).toNatClampNeg) ((r, m2)) h2) kl_L_122 sh_36 kc_X7_kinds rfl rfl (by decide) (by decide) (Nat.le_of_ble_eq_true rfl) dL_law_1016 ?_
  exact qi_icmp_eq (tgt := 1524) hC (by decide) dL_law_1019 (fun _ => hk m2 h3) (fun h => absurd rfl h)
def qaP_wants (Rel : qaM → Prop) : Prop := ∀ (m : qaM) (a1 a2 a3 : Int32), Rel m → ∃ (r : Int32) (m1 : qaM) (m2 : qaM), f_X6_wants m a1 a2 a3 = some (r, m1) ∧ f_X7_wants m1 a1 a2 a3 = some (r, m2) ∧ Rel m2
set_option maxRecDepth 100000 in
set_option maxHeartbeats 4000000 in
theorem lc_wants {X : qaX} {l : Launch} {Y : qaY} {b L : Nat} {xs : Nat → Int32} {m : qaM} (hC : QC X l Y cL_law RL 4 1000) (hL : QLw X b L xs) {i : Nat} (hi : i + 6 < L) (hLs : L ≤ 3584) {Rel : qaM → Prop} (hRel : Rel m) (hP : qaP_wants Rel) (hk : ∀ m2 : qaM, Rel m2 → QG X Y 4 m2 1524 [(0, .ref b), (1, .ref (Y.2.2.1 0)), (2, .ref (Y.2.2.1 36)), (3, .int (nI i))] []) : QG X Y 4 m 1024 [(0, .ref b), (1, .ref (Y.2.2.1 0)), (2, .ref (Y.2.2.1 36)), (3, .int (nI i))] [] := by
  obtain ⟨r, m1, m2, h1, h2, h3⟩ := hP m (xs (nI i + (1 : Int32)).toNatClampNeg) (xs (nI i + (2 : Int32)).toNatClampNeg) (xs (nI i + (3 : Int32)).toNatClampNeg) hRel
  refine qi_aload_n hC 1 rfl rfl dL_law_1024 ?_
  refine qi_aload_n hC 0 rfl rfl dL_law_1025 ?_
  refine qi_iload_n hC 3 rfl rfl dL_law_1026 ?_
  refine qi_iconst hC dL_law_1027 kn_iconst_1 ?_
  refine qi_iadd hC dL_law_1028 ?_
  refine qi_sld hC hL (lc_in i 1 (by omega) hLs) dL_law_1029 ?_
  refine qi_aload_n hC 0 rfl rfl dL_law_1030 ?_
  refine qi_iload_n hC 3 rfl rfl dL_law_1031 ?_
  refine qi_iconst hC dL_law_1032 kn_iconst_2 ?_
  refine qi_iadd hC dL_law_1033 ?_
  refine qi_sld hC hL (lc_in i 2 (by omega) hLs) dL_law_1034 ?_
  refine qi_aload_n hC 0 rfl rfl dL_law_1035 ?_
  refine qi_iload_n hC 3 rfl rfl dL_law_1036 ?_
  refine qi_iconst hC dL_law_1037 kn_iconst_3 ?_
  refine qi_iadd hC dL_law_1038 ?_
  refine qi_sld hC hL (lc_in i 3 (by omega) hLs) dL_law_1039 ?_
  refine qi_callVi hC (as := [.int (xs (nI i + (1 : Int32)).toNatClampNeg), .int (xs (nI i + (2 : Int32)).toNatClampNeg), .int (xs (nI i + (3 : Int32)).toNatClampNeg)]) (c_X6_wants _ _ m (xs (nI i + (1 : Int32)).toNatClampNeg) (xs (nI i + (2 : Int32)).toNatClampNeg) (xs (nI i + (3 : Int32)).toNatClampNeg) ((r, m1)) h1) kl_L_123 sh_0 kc_X6_wants rfl rfl (by decide) (by decide) (Nat.le_of_ble_eq_true rfl) dL_law_1040 ?_
  refine qi_aload_n hC 2 rfl rfl dL_law_1043 ?_
  refine qi_aload_n hC 0 rfl rfl dL_law_1044 ?_
  refine qi_iload_n hC 3 rfl rfl dL_law_1045 ?_
  refine qi_iconst hC dL_law_1046 kn_iconst_1 ?_
  refine qi_iadd hC dL_law_1047 ?_
  refine qi_sld hC hL (lc_in i 1 (by omega) hLs) dL_law_1048 ?_
  refine qi_aload_n hC 0 rfl rfl dL_law_1049 ?_
  refine qi_iload_n hC 3 rfl rfl dL_law_1050 ?_
  refine qi_iconst hC dL_law_1051 kn_iconst_2 ?_
  refine qi_iadd hC dL_law_1052 ?_
  refine qi_sld hC hL (lc_in i 2 (by omega) hLs) dL_law_1053 ?_
  refine qi_aload_n hC 0 rfl rfl dL_law_1054 ?_
  refine qi_iload_n hC 3 rfl rfl dL_law_1055 ?_
  refine qi_iconst hC dL_law_1056 kn_iconst_3 ?_
  refine qi_iadd hC dL_law_1057 ?_
  refine qi_sld hC hL (lc_in i 3 (by omega) hLs) dL_law_1058 ?_
  refine qi_callVi hC (as := [.int (xs (nI i + (1 : Int32)).toNatClampNeg), .int (xs (nI i + (2 : Int32)).toNatClampNeg), .int (xs (nI i + (3 : Int32)).toNatClampNeg)]) (c_X7_wants _ _ m1 (xs (nI i + (1 : Int32)).toNatClampNeg) (xs (nI i + (2 : Int32)).toNatClampNeg) (xs (nI i + (3 : Int32)).toNatClampNeg) ((r, m2)) h2) kl_L_126 sh_36 kc_X7_wants rfl rfl (by decide) (by decide) (Nat.le_of_ble_eq_true rfl) dL_law_1059 ?_
  exact qi_icmp_eq (tgt := 1524) hC (by decide) dL_law_1062 (fun _ => hk m2 h3) (fun h => absurd rfl h)
def qaP_weeks (Rel : qaM → Prop) : Prop := ∀ (m : qaM) (a1 a2 : Int32), Rel m → ∃ (r : Int32) (m1 : qaM) (m2 : qaM), f_X6_weeks m a1 a2 = some (r, m1) ∧ f_X7_weeks m1 a1 a2 = some (r, m2) ∧ Rel m2
set_option maxRecDepth 100000 in
set_option maxHeartbeats 4000000 in
theorem lc_weeks {X : qaX} {l : Launch} {Y : qaY} {b L : Nat} {xs : Nat → Int32} {m : qaM} (hC : QC X l Y cL_law RL 4 1000) (hL : QLw X b L xs) {i : Nat} (hi : i + 6 < L) (hLs : L ≤ 3584) {Rel : qaM → Prop} (hRel : Rel m) (hP : qaP_weeks Rel) (hk : ∀ m2 : qaM, Rel m2 → QG X Y 4 m2 1524 [(0, .ref b), (1, .ref (Y.2.2.1 0)), (2, .ref (Y.2.2.1 36)), (3, .int (nI i))] []) : QG X Y 4 m 1067 [(0, .ref b), (1, .ref (Y.2.2.1 0)), (2, .ref (Y.2.2.1 36)), (3, .int (nI i))] [] := by
  obtain ⟨r, m1, m2, h1, h2, h3⟩ := hP m (xs (nI i + (1 : Int32)).toNatClampNeg) (xs (nI i + (2 : Int32)).toNatClampNeg) hRel
  refine qi_aload_n hC 1 rfl rfl dL_law_1067 ?_
  refine qi_aload_n hC 0 rfl rfl dL_law_1068 ?_
  refine qi_iload_n hC 3 rfl rfl dL_law_1069 ?_
  refine qi_iconst hC dL_law_1070 kn_iconst_1 ?_
  refine qi_iadd hC dL_law_1071 ?_
  refine qi_sld hC hL (lc_in i 1 (by omega) hLs) dL_law_1072 ?_
  refine qi_aload_n hC 0 rfl rfl dL_law_1073 ?_
  refine qi_iload_n hC 3 rfl rfl dL_law_1074 ?_
  refine qi_iconst hC dL_law_1075 kn_iconst_2 ?_
  refine qi_iadd hC dL_law_1076 ?_
  refine qi_sld hC hL (lc_in i 2 (by omega) hLs) dL_law_1077 ?_
  refine qi_callVi hC (as := [.int (xs (nI i + (1 : Int32)).toNatClampNeg), .int (xs (nI i + (2 : Int32)).toNatClampNeg)]) (c_X6_weeks _ _ m (xs (nI i + (1 : Int32)).toNatClampNeg) (xs (nI i + (2 : Int32)).toNatClampNeg) ((r, m1)) h1) kl_L_127 sh_0 kc_X6_weeks rfl rfl (by decide) (by decide) (Nat.le_of_ble_eq_true rfl) dL_law_1078 ?_
  refine qi_aload_n hC 2 rfl rfl dL_law_1081 ?_
  refine qi_aload_n hC 0 rfl rfl dL_law_1082 ?_
  refine qi_iload_n hC 3 rfl rfl dL_law_1083 ?_
  refine qi_iconst hC dL_law_1084 kn_iconst_1 ?_
  refine qi_iadd hC dL_law_1085 ?_
  refine qi_sld hC hL (lc_in i 1 (by omega) hLs) dL_law_1086 ?_
  refine qi_aload_n hC 0 rfl rfl dL_law_1087 ?_
  refine qi_iload_n hC 3 rfl rfl dL_law_1088 ?_
  refine qi_iconst hC dL_law_1089 kn_iconst_2 ?_
  refine qi_iadd hC dL_law_1090 ?_
  refine qi_sld hC hL (lc_in i 2 (by omega) hLs) dL_law_1091 ?_
  refine qi_callVi hC (as := [.int (xs (nI i + (1 : Int32)).toNatClampNeg), .int (xs (nI i + (2 : Int32)).toNatClampNeg)]) (c_X7_weeks _ _ m1 (xs (nI i + (1 : Int32)).toNatClampNeg) (xs (nI i + (2 : Int32)).toNatClampNeg) ((r, m2)) h2) kl_L_130 sh_36 kc_X7_weeks rfl rfl (by decide) (by decide) (Nat.le_of_ble_eq_true rfl) dL_law_1092 ?_
  exact qi_icmp_eq (tgt := 1524) hC (by decide) dL_law_1095 (fun _ => hk m2 h3) (fun h => absurd rfl h)
def qaP_laws (Rel : qaM → Prop) : Prop := ∀ (m : qaM) (a1 a2 : Int32), Rel m → ∃ (r : Int32) (m1 : qaM) (m2 : qaM), f_X6_laws m a1 a2 = some (r, m1) ∧ f_X7_laws m1 a1 a2 = some (r, m2) ∧ Rel m2
set_option maxRecDepth 100000 in
set_option maxHeartbeats 4000000 in
theorem lc_laws {X : qaX} {l : Launch} {Y : qaY} {b L : Nat} {xs : Nat → Int32} {m : qaM} (hC : QC X l Y cL_law RL 4 1000) (hL : QLw X b L xs) {i : Nat} (hi : i + 6 < L) (hLs : L ≤ 3584) {Rel : qaM → Prop} (hRel : Rel m) (hP : qaP_laws Rel) (hk : ∀ m2 : qaM, Rel m2 → QG X Y 4 m2 1524 [(0, .ref b), (1, .ref (Y.2.2.1 0)), (2, .ref (Y.2.2.1 36)), (3, .int (nI i))] []) : QG X Y 4 m 1100 [(0, .ref b), (1, .ref (Y.2.2.1 0)), (2, .ref (Y.2.2.1 36)), (3, .int (nI i))] [] := by
  obtain ⟨r, m1, m2, h1, h2, h3⟩ := hP m (xs (nI i + (1 : Int32)).toNatClampNeg) (xs (nI i + (2 : Int32)).toNatClampNeg) hRel
  refine qi_aload_n hC 1 rfl rfl dL_law_1100 ?_
  refine qi_aload_n hC 0 rfl rfl dL_law_1101 ?_
  refine qi_iload_n hC 3 rfl rfl dL_law_1102 ?_
  refine qi_iconst hC dL_law_1103 kn_iconst_1 ?_
  refine qi_iadd hC dL_law_1104 ?_
  refine qi_sld hC hL (lc_in i 1 (by omega) hLs) dL_law_1105 ?_
  refine qi_aload_n hC 0 rfl rfl dL_law_1106 ?_
  refine qi_iload_n hC 3 rfl rfl dL_law_1107 ?_
  refine qi_iconst hC dL_law_1108 kn_iconst_2 ?_
  refine qi_iadd hC dL_law_1109 ?_
  refine qi_sld hC hL (lc_in i 2 (by omega) hLs) dL_law_1110 ?_
  refine qi_callVi hC (as := [.int (xs (nI i + (1 : Int32)).toNatClampNeg), .int (xs (nI i + (2 : Int32)).toNatClampNeg)]) (c_X6_laws _ _ m (xs (nI i + (1 : Int32)).toNatClampNeg) (xs (nI i + (2 : Int32)).toNatClampNeg) ((r, m1)) h1) kl_L_131 sh_0 kc_X6_laws rfl rfl (by decide) (by decide) (Nat.le_of_ble_eq_true rfl) dL_law_1111 ?_
  refine qi_aload_n hC 2 rfl rfl dL_law_1114 ?_
  refine qi_aload_n hC 0 rfl rfl dL_law_1115 ?_
  refine qi_iload_n hC 3 rfl rfl dL_law_1116 ?_
  refine qi_iconst hC dL_law_1117 kn_iconst_1 ?_
  refine qi_iadd hC dL_law_1118 ?_
  refine qi_sld hC hL (lc_in i 1 (by omega) hLs) dL_law_1119 ?_
  refine qi_aload_n hC 0 rfl rfl dL_law_1120 ?_
  refine qi_iload_n hC 3 rfl rfl dL_law_1121 ?_
  refine qi_iconst hC dL_law_1122 kn_iconst_2 ?_
  refine qi_iadd hC dL_law_1123 ?_
  refine qi_sld hC hL (lc_in i 2 (by omega) hLs) dL_law_1124 ?_
  refine qi_callVi hC (as := [.int (xs (nI i + (1 : Int32)).toNatClampNeg), .int (xs (nI i + (2 : Int32)).toNatClampNeg)]) (c_X7_laws _ _ m1 (xs (nI i + (1 : Int32)).toNatClampNeg) (xs (nI i + (2 : Int32)).toNatClampNeg) ((r, m2)) h2) kl_L_134 sh_36 kc_X7_laws rfl rfl (by decide) (by decide) (Nat.le_of_ble_eq_true rfl) dL_law_1125 ?_
  exact qi_icmp_eq (tgt := 1524) hC (by decide) dL_law_1128 (fun _ => hk m2 h3) (fun h => absurd rfl h)
def qaP_film (Rel : qaM → Prop) : Prop := ∀ (m : qaM) (a1 a2 : Int32), Rel m → ∃ (r : Int32) (m1 : qaM) (m2 : qaM), f_X6_film m a1 a2 = some (r, m1) ∧ f_X7_film m1 a1 a2 = some (r, m2) ∧ Rel m2
set_option maxRecDepth 100000 in
set_option maxHeartbeats 4000000 in
theorem lc_film {X : qaX} {l : Launch} {Y : qaY} {b L : Nat} {xs : Nat → Int32} {m : qaM} (hC : QC X l Y cL_law RL 4 1000) (hL : QLw X b L xs) {i : Nat} (hi : i + 6 < L) (hLs : L ≤ 3584) {Rel : qaM → Prop} (hRel : Rel m) (hP : qaP_film Rel) (hk : ∀ m2 : qaM, Rel m2 → QG X Y 4 m2 1524 [(0, .ref b), (1, .ref (Y.2.2.1 0)), (2, .ref (Y.2.2.1 36)), (3, .int (nI i))] []) : QG X Y 4 m 1133 [(0, .ref b), (1, .ref (Y.2.2.1 0)), (2, .ref (Y.2.2.1 36)), (3, .int (nI i))] [] := by
  obtain ⟨r, m1, m2, h1, h2, h3⟩ := hP m (xs (nI i + (1 : Int32)).toNatClampNeg) (xs (nI i + (2 : Int32)).toNatClampNeg) hRel
  refine qi_aload_n hC 1 rfl rfl dL_law_1133 ?_
  refine qi_aload_n hC 0 rfl rfl dL_law_1134 ?_
  refine qi_iload_n hC 3 rfl rfl dL_law_1135 ?_
  refine qi_iconst hC dL_law_1136 kn_iconst_1 ?_
  refine qi_iadd hC dL_law_1137 ?_
  refine qi_sld hC hL (lc_in i 1 (by omega) hLs) dL_law_1138 ?_
  refine qi_aload_n hC 0 rfl rfl dL_law_1139 ?_
  refine qi_iload_n hC 3 rfl rfl dL_law_1140 ?_
  refine qi_iconst hC dL_law_1141 kn_iconst_2 ?_
  refine qi_iadd hC dL_law_1142 ?_
  refine qi_sld hC hL (lc_in i 2 (by omega) hLs) dL_law_1143 ?_
  refine qi_callVi hC (as := [.int (xs (nI i + (1 : Int32)).toNatClampNeg), .int (xs (nI i + (2 : Int32)).toNatClampNeg)]) (c_X6_film _ _ m (xs (nI i + (1 : Int32)).toNatClampNeg) (xs (nI i + (2 : Int32)).toNatClampNeg) ((r, m1)) h1) kl_L_135 sh_0 kc_X6_film rfl rfl (by decide) (by decide) (Nat.le_of_ble_eq_true rfl) dL_law_1144 ?_
  refine qi_aload_n hC 2 rfl rfl dL_law_1147 ?_
  refine qi_aload_n hC 0 rfl rfl dL_law_1148 ?_
  refine qi_iload_n hC 3 rfl rfl dL_law_1149 ?_
  refine qi_iconst hC dL_law_1150 kn_iconst_1 ?_
  refine qi_iadd hC dL_law_1151 ?_
  refine qi_sld hC hL (lc_in i 1 (by omega) hLs) dL_law_1152 ?_
  refine qi_aload_n hC 0 rfl rfl dL_law_1153 ?_
  refine qi_iload_n hC 3 rfl rfl dL_law_1154 ?_
  refine qi_iconst hC dL_law_1155 kn_iconst_2 ?_
  refine qi_iadd hC dL_law_1156 ?_
  refine qi_sld hC hL (lc_in i 2 (by omega) hLs) dL_law_1157 ?_
  refine qi_callVi hC (as := [.int (xs (nI i + (1 : Int32)).toNatClampNeg), .int (xs (nI i + (2 : Int32)).toNatClampNeg)]) (c_X7_film _ _ m1 (xs (nI i + (1 : Int32)).toNatClampNeg) (xs (nI i + (2 : Int32)).toNatClampNeg) ((r, m2)) h2) kl_L_138 sh_36 kc_X7_film rfl rfl (by decide) (by decide) (Nat.le_of_ble_eq_true rfl) dL_law_1158 ?_
  exact qi_icmp_eq (tgt := 1524) hC (by decide) dL_law_1161 (fun _ => hk m2 h3) (fun h => absurd rfl h)
def qaP_drawn (Rel : qaM → Prop) : Prop := ∀ (m : qaM) (a1 a2 a3 : Int32), Rel m → ∃ (r : Int32) (m1 : qaM) (m2 : qaM), f_X6_drawn m a1 a2 a3 = some (r, m1) ∧ f_X7_drawn m1 a1 a2 a3 = some (r, m2) ∧ Rel m2
set_option maxRecDepth 100000 in
set_option maxHeartbeats 4000000 in
theorem lc_drawn {X : qaX} {l : Launch} {Y : qaY} {b L : Nat} {xs : Nat → Int32} {m : qaM} (hC : QC X l Y cL_law RL 4 1000) (hL : QLw X b L xs) {i : Nat} (hi : i + 6 < L) (hLs : L ≤ 3584) {Rel : qaM → Prop} (hRel : Rel m) (hP : qaP_drawn Rel) (hk : ∀ m2 : qaM, Rel m2 → QG X Y 4 m2 1524 [(0, .ref b), (1, .ref (Y.2.2.1 0)), (2, .ref (Y.2.2.1 36)), (3, .int (nI i))] []) : QG X Y 4 m 1166 [(0, .ref b), (1, .ref (Y.2.2.1 0)), (2, .ref (Y.2.2.1 36)), (3, .int (nI i))] [] := by
  obtain ⟨r, m1, m2, h1, h2, h3⟩ := hP m (xs (nI i + (1 : Int32)).toNatClampNeg) (xs (nI i + (2 : Int32)).toNatClampNeg) (xs (nI i + (3 : Int32)).toNatClampNeg) hRel
  refine qi_aload_n hC 1 rfl rfl dL_law_1166 ?_
  refine qi_aload_n hC 0 rfl rfl dL_law_1167 ?_
  refine qi_iload_n hC 3 rfl rfl dL_law_1168 ?_
  refine qi_iconst hC dL_law_1169 kn_iconst_1 ?_
  refine qi_iadd hC dL_law_1170 ?_
  refine qi_sld hC hL (lc_in i 1 (by omega) hLs) dL_law_1171 ?_
  refine qi_aload_n hC 0 rfl rfl dL_law_1172 ?_
  refine qi_iload_n hC 3 rfl rfl dL_law_1173 ?_
  refine qi_iconst hC dL_law_1174 kn_iconst_2 ?_
  refine qi_iadd hC dL_law_1175 ?_
  refine qi_sld hC hL (lc_in i 2 (by omega) hLs) dL_law_1176 ?_
  refine qi_aload_n hC 0 rfl rfl dL_law_1177 ?_
  refine qi_iload_n hC 3 rfl rfl dL_law_1178 ?_
  refine qi_iconst hC dL_law_1179 kn_iconst_3 ?_
  refine qi_iadd hC dL_law_1180 ?_
  refine qi_sld hC hL (lc_in i 3 (by omega) hLs) dL_law_1181 ?_
  refine qi_callVi hC (as := [.int (xs (nI i + (1 : Int32)).toNatClampNeg), .int (xs (nI i + (2 : Int32)).toNatClampNeg), .int (xs (nI i + (3 : Int32)).toNatClampNeg)]) (c_X6_drawn _ _ m (xs (nI i + (1 : Int32)).toNatClampNeg) (xs (nI i + (2 : Int32)).toNatClampNeg) (xs (nI i + (3 : Int32)).toNatClampNeg) ((r, m1)) h1) kl_L_139 sh_0 kc_X6_drawn rfl rfl (by decide) (by decide) (Nat.le_of_ble_eq_true rfl) dL_law_1182 ?_
  refine qi_aload_n hC 2 rfl rfl dL_law_1185 ?_
  refine qi_aload_n hC 0 rfl rfl dL_law_1186 ?_
  refine qi_iload_n hC 3 rfl rfl dL_law_1187 ?_
  refine qi_iconst hC dL_law_1188 kn_iconst_1 ?_
  refine qi_iadd hC dL_law_1189 ?_
  refine qi_sld hC hL (lc_in i 1 (by omega) hLs) dL_law_1190 ?_
  refine qi_aload_n hC 0 rfl rfl dL_law_1191 ?_
  refine qi_iload_n hC 3 rfl rfl dL_law_1192 ?_
  refine qi_iconst hC dL_law_1193 kn_iconst_2 ?_
  refine qi_iadd hC dL_law_1194 ?_
  refine qi_sld hC hL (lc_in i 2 (by omega) hLs) dL_law_1195 ?_
  refine qi_aload_n hC 0 rfl rfl dL_law_1196 ?_
  refine qi_iload_n hC 3 rfl rfl dL_law_1197 ?_
  refine qi_iconst hC dL_law_1198 kn_iconst_3 ?_
  refine qi_iadd hC dL_law_1199 ?_
  refine qi_sld hC hL (lc_in i 3 (by omega) hLs) dL_law_1200 ?_
  refine qi_callVi hC (as := [.int (xs (nI i + (1 : Int32)).toNatClampNeg), .int (xs (nI i + (2 : Int32)).toNatClampNeg), .int (xs (nI i + (3 : Int32)).toNatClampNeg)]) (c_X7_drawn _ _ m1 (xs (nI i + (1 : Int32)).toNatClampNeg) (xs (nI i + (2 : Int32)).toNatClampNeg) (xs (nI i + (3 : Int32)).toNatClampNeg) ((r, m2)) h2) kl_L_142 sh_36 kc_X7_drawn rfl rfl (by decide) (by decide) (Nat.le_of_ble_eq_true rfl) dL_law_1201 ?_
  exact qi_icmp_eq (tgt := 1524) hC (by decide) dL_law_1204 (fun _ => hk m2 h3) (fun h => absurd rfl h)
def qaP_odds (Rel : qaM → Prop) : Prop := ∀ (m : qaM) (a1 a2 a3 a4 : Int32), Rel m → ∃ (r : Int64) (m1 : qaM) (m2 : qaM), f_X6_odds m a1 a2 a3 a4 = some (r, m1) ∧ f_X7_odds m1 a1 a2 a3 a4 = some (r, m2) ∧ Rel m2
set_option maxRecDepth 100000 in
set_option maxHeartbeats 4000000 in
theorem lc_odds {X : qaX} {l : Launch} {Y : qaY} {b L : Nat} {xs : Nat → Int32} {m : qaM} (hC : QC X l Y cL_law RL 4 1000) (hL : QLw X b L xs) {i : Nat} (hi : i + 6 < L) (hLs : L ≤ 3584) {Rel : qaM → Prop} (hRel : Rel m) (hP : qaP_odds Rel) (hk : ∀ m2 : qaM, Rel m2 → QG X Y 4 m2 1524 [(0, .ref b), (1, .ref (Y.2.2.1 0)), (2, .ref (Y.2.2.1 36)), (3, .int (nI i))] []) : QG X Y 4 m 1209 [(0, .ref b), (1, .ref (Y.2.2.1 0)), (2, .ref (Y.2.2.1 36)), (3, .int (nI i))] [] := by
  obtain ⟨r, m1, m2, h1, h2, h3⟩ := hP m (xs (nI i + (1 : Int32)).toNatClampNeg) (xs (nI i + (2 : Int32)).toNatClampNeg) (xs (nI i + (3 : Int32)).toNatClampNeg) (xs (nI i + (4 : Int32)).toNatClampNeg) hRel
  refine qi_aload_n hC 1 rfl rfl dL_law_1209 ?_
  refine qi_aload_n hC 0 rfl rfl dL_law_1210 ?_
  refine qi_iload_n hC 3 rfl rfl dL_law_1211 ?_
  refine qi_iconst hC dL_law_1212 kn_iconst_1 ?_
  refine qi_iadd hC dL_law_1213 ?_
  refine qi_sld hC hL (lc_in i 1 (by omega) hLs) dL_law_1214 ?_
  refine qi_aload_n hC 0 rfl rfl dL_law_1215 ?_
  refine qi_iload_n hC 3 rfl rfl dL_law_1216 ?_
  refine qi_iconst hC dL_law_1217 kn_iconst_2 ?_
  refine qi_iadd hC dL_law_1218 ?_
  refine qi_sld hC hL (lc_in i 2 (by omega) hLs) dL_law_1219 ?_
  refine qi_aload_n hC 0 rfl rfl dL_law_1220 ?_
  refine qi_iload_n hC 3 rfl rfl dL_law_1221 ?_
  refine qi_iconst hC dL_law_1222 kn_iconst_3 ?_
  refine qi_iadd hC dL_law_1223 ?_
  refine qi_sld hC hL (lc_in i 3 (by omega) hLs) dL_law_1224 ?_
  refine qi_aload_n hC 0 rfl rfl dL_law_1225 ?_
  refine qi_iload_n hC 3 rfl rfl dL_law_1226 ?_
  refine qi_iconst hC dL_law_1227 kn_iconst_4 ?_
  refine qi_iadd hC dL_law_1228 ?_
  refine qi_sld hC hL (lc_in i 4 (by omega) hLs) dL_law_1229 ?_
  refine qi_callVl hC (as := [.int (xs (nI i + (1 : Int32)).toNatClampNeg), .int (xs (nI i + (2 : Int32)).toNatClampNeg), .int (xs (nI i + (3 : Int32)).toNatClampNeg), .int (xs (nI i + (4 : Int32)).toNatClampNeg)]) (c_X6_odds _ _ m (xs (nI i + (1 : Int32)).toNatClampNeg) (xs (nI i + (2 : Int32)).toNatClampNeg) (xs (nI i + (3 : Int32)).toNatClampNeg) (xs (nI i + (4 : Int32)).toNatClampNeg) ((r, m1)) h1) kl_L_143 sh_0 kc_X6_odds rfl rfl (by decide) (by decide) (Nat.le_of_ble_eq_true rfl) dL_law_1230 ?_
  refine qi_aload_n hC 2 rfl rfl dL_law_1233 ?_
  refine qi_aload_n hC 0 rfl rfl dL_law_1234 ?_
  refine qi_iload_n hC 3 rfl rfl dL_law_1235 ?_
  refine qi_iconst hC dL_law_1236 kn_iconst_1 ?_
  refine qi_iadd hC dL_law_1237 ?_
  refine qi_sld hC hL (lc_in i 1 (by omega) hLs) dL_law_1238 ?_
  refine qi_aload_n hC 0 rfl rfl dL_law_1239 ?_
  refine qi_iload_n hC 3 rfl rfl dL_law_1240 ?_
  refine qi_iconst hC dL_law_1241 kn_iconst_2 ?_
  refine qi_iadd hC dL_law_1242 ?_
  refine qi_sld hC hL (lc_in i 2 (by omega) hLs) dL_law_1243 ?_
  refine qi_aload_n hC 0 rfl rfl dL_law_1244 ?_
  refine qi_iload_n hC 3 rfl rfl dL_law_1245 ?_
  refine qi_iconst hC dL_law_1246 kn_iconst_3 ?_
  refine qi_iadd hC dL_law_1247 ?_
  refine qi_sld hC hL (lc_in i 3 (by omega) hLs) dL_law_1248 ?_
  refine qi_aload_n hC 0 rfl rfl dL_law_1249 ?_
  refine qi_iload_n hC 3 rfl rfl dL_law_1250 ?_
  refine qi_iconst hC dL_law_1251 kn_iconst_4 ?_
  refine qi_iadd hC dL_law_1252 ?_
  refine qi_sld hC hL (lc_in i 4 (by omega) hLs) dL_law_1253 ?_
  refine qi_callVl hC (as := [.int (xs (nI i + (1 : Int32)).toNatClampNeg), .int (xs (nI i + (2 : Int32)).toNatClampNeg), .int (xs (nI i + (3 : Int32)).toNatClampNeg), .int (xs (nI i + (4 : Int32)).toNatClampNeg)]) (c_X7_odds _ _ m1 (xs (nI i + (1 : Int32)).toNatClampNeg) (xs (nI i + (2 : Int32)).toNatClampNeg) (xs (nI i + (3 : Int32)).toNatClampNeg) (xs (nI i + (4 : Int32)).toNatClampNeg) ((r, m2)) h2) kl_L_147 sh_36 kc_X7_odds rfl rfl (by decide) (by decide) (Nat.le_of_ble_eq_true rfl) dL_law_1254 ?_
  refine qi_lcmp hC dL_law_1257 ?_
  exact qi_if_eq (tgt := 1524) hC (by decide) dL_law_1258 (fun _ => hk m2 h3) (fun h => absurd (lc_cmp r) h)
def qaP_image (Rel : qaM → Prop) : Prop := ∀ (m : qaM), Rel m → ∃ (r : Int32) (m1 : qaM) (m2 : qaM), f_X6_image m  = some (r, m1) ∧ f_X7_image m1  = some (r, m2) ∧ Rel m2
set_option maxRecDepth 100000 in
set_option maxHeartbeats 4000000 in
theorem lc_image {X : qaX} {l : Launch} {Y : qaY} {b L : Nat} {xs : Nat → Int32} {m : qaM} (hC : QC X l Y cL_law RL 4 1000) (hL : QLw X b L xs) {i : Nat} (hi : i + 6 < L) (hLs : L ≤ 3584) {Rel : qaM → Prop} (hRel : Rel m) (hP : qaP_image Rel) (hk : ∀ m2 : qaM, Rel m2 → QG X Y 4 m2 1524 [(0, .ref b), (1, .ref (Y.2.2.1 0)), (2, .ref (Y.2.2.1 36)), (3, .int (nI i))] []) : QG X Y 4 m 1263 [(0, .ref b), (1, .ref (Y.2.2.1 0)), (2, .ref (Y.2.2.1 36)), (3, .int (nI i))] [] := by
  obtain ⟨r, m1, m2, h1, h2, h3⟩ := hP m  hRel
  refine qi_aload_n hC 1 rfl rfl dL_law_1263 ?_
  refine qi_callVi hC (as := []) (c_X6_image _ _ m  ((r, m1)) h1) kl_L_148 sh_0 kc_X6_image rfl rfl (by decide) (by decide) (Nat.le_of_ble_eq_true rfl) dL_law_1264 ?_
  refine qi_aload_n hC 2 rfl rfl dL_law_1267 ?_
  refine qi_callVi hC (as := []) (c_X7_image _ _ m1  ((r, m2)) h2) kl_L_151 sh_36 kc_X7_image rfl rfl (by decide) (by decide) (Nat.le_of_ble_eq_true rfl) dL_law_1268 ?_
  exact qi_icmp_eq (tgt := 1524) hC (by decide) dL_law_1271 (fun _ => hk m2 h3) (fun h => absurd rfl h)
def qaP_back (Rel : qaM → Prop) : Prop := ∀ (m : qaM), Rel m → ∃ (r : Int32) (m1 : qaM) (m2 : qaM), f_X6_back m  = some (r, m1) ∧ f_X7_back m1  = some (r, m2) ∧ Rel m2
set_option maxRecDepth 100000 in
set_option maxHeartbeats 4000000 in
theorem lc_back {X : qaX} {l : Launch} {Y : qaY} {b L : Nat} {xs : Nat → Int32} {m : qaM} (hC : QC X l Y cL_law RL 4 1000) (hL : QLw X b L xs) {i : Nat} (hi : i + 6 < L) (hLs : L ≤ 3584) {Rel : qaM → Prop} (hRel : Rel m) (hP : qaP_back Rel) (hk : ∀ m2 : qaM, Rel m2 → QG X Y 4 m2 1524 [(0, .ref b), (1, .ref (Y.2.2.1 0)), (2, .ref (Y.2.2.1 36)), (3, .int (nI i))] []) : QG X Y 4 m 1276 [(0, .ref b), (1, .ref (Y.2.2.1 0)), (2, .ref (Y.2.2.1 36)), (3, .int (nI i))] [] := by
  obtain ⟨r, m1, m2, h1, h2, h3⟩ := hP m  hRel
  refine qi_aload_n hC 1 rfl rfl dL_law_1276 ?_
  refine qi_callVi hC (as := []) (c_X6_back _ _ m  ((r, m1)) h1) kl_L_152 sh_0 kc_X6_back rfl rfl (by decide) (by decide) (Nat.le_of_ble_eq_true rfl) dL_law_1277 ?_
  refine qi_aload_n hC 2 rfl rfl dL_law_1280 ?_
  refine qi_callVi hC (as := []) (c_X7_back _ _ m1  ((r, m2)) h2) kl_L_155 sh_36 kc_X7_back rfl rfl (by decide) (by decide) (Nat.le_of_ble_eq_true rfl) dL_law_1281 ?_
  exact qi_icmp_eq (tgt := 1524) hC (by decide) dL_law_1284 (fun _ => hk m2 h3) (fun h => absurd rfl h)
def qaP_sheet (Rel : qaM → Prop) : Prop := ∀ (m : qaM) (a1 a2 a3 : Int32), Rel m → ∃ (r : Int32) (m1 : qaM) (m2 : qaM), f_X6_sheet m a1 a2 a3 = some (r, m1) ∧ f_X7_sheet m1 a1 a2 a3 = some (r, m2) ∧ Rel m2
set_option maxRecDepth 100000 in
set_option maxHeartbeats 4000000 in
theorem lc_sheet {X : qaX} {l : Launch} {Y : qaY} {b L : Nat} {xs : Nat → Int32} {m : qaM} (hC : QC X l Y cL_law RL 4 1000) (hL : QLw X b L xs) {i : Nat} (hi : i + 6 < L) (hLs : L ≤ 3584) {Rel : qaM → Prop} (hRel : Rel m) (hP : qaP_sheet Rel) (hk : ∀ m2 : qaM, Rel m2 → QG X Y 4 m2 1524 [(0, .ref b), (1, .ref (Y.2.2.1 0)), (2, .ref (Y.2.2.1 36)), (3, .int (nI i))] []) : QG X Y 4 m 1289 [(0, .ref b), (1, .ref (Y.2.2.1 0)), (2, .ref (Y.2.2.1 36)), (3, .int (nI i))] [] := by
  obtain ⟨r, m1, m2, h1, h2, h3⟩ := hP m (xs (nI i + (1 : Int32)).toNatClampNeg) (xs (nI i + (2 : Int32)).toNatClampNeg) (xs (nI i + (3 : Int32)).toNatClampNeg) hRel
  refine qi_aload_n hC 1 rfl rfl dL_law_1289 ?_
  refine qi_aload_n hC 0 rfl rfl dL_law_1290 ?_
  refine qi_iload_n hC 3 rfl rfl dL_law_1291 ?_
  refine qi_iconst hC dL_law_1292 kn_iconst_1 ?_
  refine qi_iadd hC dL_law_1293 ?_
  refine qi_sld hC hL (lc_in i 1 (by omega) hLs) dL_law_1294 ?_
  refine qi_aload_n hC 0 rfl rfl dL_law_1295 ?_
  refine qi_iload_n hC 3 rfl rfl dL_law_1296 ?_
  refine qi_iconst hC dL_law_1297 kn_iconst_2 ?_
  refine qi_iadd hC dL_law_1298 ?_
  refine qi_sld hC hL (lc_in i 2 (by omega) hLs) dL_law_1299 ?_
  refine qi_aload_n hC 0 rfl rfl dL_law_1300 ?_
  refine qi_iload_n hC 3 rfl rfl dL_law_1301 ?_
  refine qi_iconst hC dL_law_1302 kn_iconst_3 ?_
  refine qi_iadd hC dL_law_1303 ?_
  refine qi_sld hC hL (lc_in i 3 (by omega) hLs) dL_law_1304 ?_
  refine qi_callVi hC (as := [.int (xs (nI i + (1 : Int32)).toNatClampNeg), .int (xs (nI i + (2 : Int32)).toNatClampNeg), .int (xs (nI i + (3 : Int32)).toNatClampNeg)]) (c_X6_sheet _ _ m (xs (nI i + (1 : Int32)).toNatClampNeg) (xs (nI i + (2 : Int32)).toNatClampNeg) (xs (nI i + (3 : Int32)).toNatClampNeg) ((r, m1)) h1) kl_L_156 sh_0 kc_X6_sheet rfl rfl (by decide) (by decide) (Nat.le_of_ble_eq_true rfl) dL_law_1305 ?_
  refine qi_aload_n hC 2 rfl rfl dL_law_1308 ?_
  refine qi_aload_n hC 0 rfl rfl dL_law_1309 ?_
  refine qi_iload_n hC 3 rfl rfl dL_law_1310 ?_
  refine qi_iconst hC dL_law_1311 kn_iconst_1 ?_
  refine qi_iadd hC dL_law_1312 ?_
  refine qi_sld hC hL (lc_in i 1 (by omega) hLs) dL_law_1313 ?_
  refine qi_aload_n hC 0 rfl rfl dL_law_1314 ?_
  refine qi_iload_n hC 3 rfl rfl dL_law_1315 ?_
  refine qi_iconst hC dL_law_1316 kn_iconst_2 ?_
  refine qi_iadd hC dL_law_1317 ?_
  refine qi_sld hC hL (lc_in i 2 (by omega) hLs) dL_law_1318 ?_
  refine qi_aload_n hC 0 rfl rfl dL_law_1319 ?_
  refine qi_iload_n hC 3 rfl rfl dL_law_1320 ?_
  refine qi_iconst hC dL_law_1321 kn_iconst_3 ?_
  refine qi_iadd hC dL_law_1322 ?_
  refine qi_sld hC hL (lc_in i 3 (by omega) hLs) dL_law_1323 ?_
  refine qi_callVi hC (as := [.int (xs (nI i + (1 : Int32)).toNatClampNeg), .int (xs (nI i + (2 : Int32)).toNatClampNeg), .int (xs (nI i + (3 : Int32)).toNatClampNeg)]) (c_X7_sheet _ _ m1 (xs (nI i + (1 : Int32)).toNatClampNeg) (xs (nI i + (2 : Int32)).toNatClampNeg) (xs (nI i + (3 : Int32)).toNatClampNeg) ((r, m2)) h2) kl_L_159 sh_36 kc_X7_sheet rfl rfl (by decide) (by decide) (Nat.le_of_ble_eq_true rfl) dL_law_1324 ?_
  exact qi_icmp_eq (tgt := 1524) hC (by decide) dL_law_1327 (fun _ => hk m2 h3) (fun h => absurd rfl h)
def qaP_cell (Rel : qaM → Prop) : Prop := ∀ (m : qaM) (a1 a2 a3 : Int32), Rel m → ∃ (r : Int32) (m1 : qaM) (m2 : qaM), f_X6_cell m a1 a2 a3 = some (r, m1) ∧ f_X7_cell m1 a1 a2 a3 = some (r, m2) ∧ Rel m2
set_option maxRecDepth 100000 in
set_option maxHeartbeats 4000000 in
theorem lc_cell {X : qaX} {l : Launch} {Y : qaY} {b L : Nat} {xs : Nat → Int32} {m : qaM} (hC : QC X l Y cL_law RL 4 1000) (hL : QLw X b L xs) {i : Nat} (hi : i + 6 < L) (hLs : L ≤ 3584) {Rel : qaM → Prop} (hRel : Rel m) (hP : qaP_cell Rel) (hk : ∀ m2 : qaM, Rel m2 → QG X Y 4 m2 1524 [(0, .ref b), (1, .ref (Y.2.2.1 0)), (2, .ref (Y.2.2.1 36)), (3, .int (nI i))] []) : QG X Y 4 m 1332 [(0, .ref b), (1, .ref (Y.2.2.1 0)), (2, .ref (Y.2.2.1 36)), (3, .int (nI i))] [] := by
  obtain ⟨r, m1, m2, h1, h2, h3⟩ := hP m (xs (nI i + (1 : Int32)).toNatClampNeg) (xs (nI i + (2 : Int32)).toNatClampNeg) (xs (nI i + (3 : Int32)).toNatClampNeg) hRel
  refine qi_aload_n hC 1 rfl rfl dL_law_1332 ?_
  refine qi_aload_n hC 0 rfl rfl dL_law_1333 ?_
  refine qi_iload_n hC 3 rfl rfl dL_law_1334 ?_
  refine qi_iconst hC dL_law_1335 kn_iconst_1 ?_
  refine qi_iadd hC dL_law_1336 ?_
  refine qi_sld hC hL (lc_in i 1 (by omega) hLs) dL_law_1337 ?_
  refine qi_aload_n hC 0 rfl rfl dL_law_1338 ?_
  refine qi_iload_n hC 3 rfl rfl dL_law_1339 ?_
  refine qi_iconst hC dL_law_1340 kn_iconst_2 ?_
  refine qi_iadd hC dL_law_1341 ?_
  refine qi_sld hC hL (lc_in i 2 (by omega) hLs) dL_law_1342 ?_
  refine qi_aload_n hC 0 rfl rfl dL_law_1343 ?_
  refine qi_iload_n hC 3 rfl rfl dL_law_1344 ?_
  refine qi_iconst hC dL_law_1345 kn_iconst_3 ?_
  refine qi_iadd hC dL_law_1346 ?_
  refine qi_sld hC hL (lc_in i 3 (by omega) hLs) dL_law_1347 ?_
  refine qi_callVi hC (as := [.int (xs (nI i + (1 : Int32)).toNatClampNeg), .int (xs (nI i + (2 : Int32)).toNatClampNeg), .int (xs (nI i + (3 : Int32)).toNatClampNeg)]) (c_X6_cell _ _ m (xs (nI i + (1 : Int32)).toNatClampNeg) (xs (nI i + (2 : Int32)).toNatClampNeg) (xs (nI i + (3 : Int32)).toNatClampNeg) ((r, m1)) h1) kl_L_160 sh_0 kc_X6_cell rfl rfl (by decide) (by decide) (Nat.le_of_ble_eq_true rfl) dL_law_1348 ?_
  refine qi_aload_n hC 2 rfl rfl dL_law_1351 ?_
  refine qi_aload_n hC 0 rfl rfl dL_law_1352 ?_
  refine qi_iload_n hC 3 rfl rfl dL_law_1353 ?_
  refine qi_iconst hC dL_law_1354 kn_iconst_1 ?_
  refine qi_iadd hC dL_law_1355 ?_
  refine qi_sld hC hL (lc_in i 1 (by omega) hLs) dL_law_1356 ?_
  refine qi_aload_n hC 0 rfl rfl dL_law_1357 ?_
  refine qi_iload_n hC 3 rfl rfl dL_law_1358 ?_
  refine qi_iconst hC dL_law_1359 kn_iconst_2 ?_
  refine qi_iadd hC dL_law_1360 ?_
  refine qi_sld hC hL (lc_in i 2 (by omega) hLs) dL_law_1361 ?_
  refine qi_aload_n hC 0 rfl rfl dL_law_1362 ?_
  refine qi_iload_n hC 3 rfl rfl dL_law_1363 ?_
  refine qi_iconst hC dL_law_1364 kn_iconst_3 ?_
  refine qi_iadd hC dL_law_1365 ?_
  refine qi_sld hC hL (lc_in i 3 (by omega) hLs) dL_law_1366 ?_
  refine qi_callVi hC (as := [.int (xs (nI i + (1 : Int32)).toNatClampNeg), .int (xs (nI i + (2 : Int32)).toNatClampNeg), .int (xs (nI i + (3 : Int32)).toNatClampNeg)]) (c_X7_cell _ _ m1 (xs (nI i + (1 : Int32)).toNatClampNeg) (xs (nI i + (2 : Int32)).toNatClampNeg) (xs (nI i + (3 : Int32)).toNatClampNeg) ((r, m2)) h2) kl_L_163 sh_36 kc_X7_cell rfl rfl (by decide) (by decide) (Nat.le_of_ble_eq_true rfl) dL_law_1367 ?_
  exact qi_icmp_eq (tgt := 1524) hC (by decide) dL_law_1370 (fun _ => hk m2 h3) (fun h => absurd rfl h)
def qaP_copy (Rel : qaM → Prop) : Prop := ∀ (m : qaM) (a1 a2 a3 a4 a5 : Int32), Rel m → ∃ (r : Int32) (m1 : qaM) (m2 : qaM), f_X6_copy m a1 a2 a3 a4 a5 = some (r, m1) ∧ f_X7_copy m1 a1 a2 a3 a4 a5 = some (r, m2) ∧ Rel m2
set_option maxRecDepth 100000 in
set_option maxHeartbeats 4000000 in
theorem lc_copy {X : qaX} {l : Launch} {Y : qaY} {b L : Nat} {xs : Nat → Int32} {m : qaM} (hC : QC X l Y cL_law RL 4 1000) (hL : QLw X b L xs) {i : Nat} (hi : i + 6 < L) (hLs : L ≤ 3584) {Rel : qaM → Prop} (hRel : Rel m) (hP : qaP_copy Rel) (hk : ∀ m2 : qaM, Rel m2 → QG X Y 4 m2 1524 [(0, .ref b), (1, .ref (Y.2.2.1 0)), (2, .ref (Y.2.2.1 36)), (3, .int (nI i))] []) : QG X Y 4 m 1375 [(0, .ref b), (1, .ref (Y.2.2.1 0)), (2, .ref (Y.2.2.1 36)), (3, .int (nI i))] [] := by
  obtain ⟨r, m1, m2, h1, h2, h3⟩ := hP m (xs (nI i + (1 : Int32)).toNatClampNeg) (xs (nI i + (2 : Int32)).toNatClampNeg) (xs (nI i + (3 : Int32)).toNatClampNeg) (xs (nI i + (4 : Int32)).toNatClampNeg) (xs (nI i + (5 : Int32)).toNatClampNeg) hRel
  refine qi_aload_n hC 1 rfl rfl dL_law_1375 ?_
  refine qi_aload_n hC 0 rfl rfl dL_law_1376 ?_
  refine qi_iload_n hC 3 rfl rfl dL_law_1377 ?_
  refine qi_iconst hC dL_law_1378 kn_iconst_1 ?_
  refine qi_iadd hC dL_law_1379 ?_
  refine qi_sld hC hL (lc_in i 1 (by omega) hLs) dL_law_1380 ?_
  refine qi_aload_n hC 0 rfl rfl dL_law_1381 ?_
  refine qi_iload_n hC 3 rfl rfl dL_law_1382 ?_
  refine qi_iconst hC dL_law_1383 kn_iconst_2 ?_
  refine qi_iadd hC dL_law_1384 ?_
  refine qi_sld hC hL (lc_in i 2 (by omega) hLs) dL_law_1385 ?_
  refine qi_aload_n hC 0 rfl rfl dL_law_1386 ?_
  refine qi_iload_n hC 3 rfl rfl dL_law_1387 ?_
  refine qi_iconst hC dL_law_1388 kn_iconst_3 ?_
  refine qi_iadd hC dL_law_1389 ?_
  refine qi_sld hC hL (lc_in i 3 (by omega) hLs) dL_law_1390 ?_
  refine qi_aload_n hC 0 rfl rfl dL_law_1391 ?_
  refine qi_iload_n hC 3 rfl rfl dL_law_1392 ?_
  refine qi_iconst hC dL_law_1393 kn_iconst_4 ?_
  refine qi_iadd hC dL_law_1394 ?_
  refine qi_sld hC hL (lc_in i 4 (by omega) hLs) dL_law_1395 ?_
  refine qi_aload_n hC 0 rfl rfl dL_law_1396 ?_
  refine qi_iload_n hC 3 rfl rfl dL_law_1397 ?_
  refine qi_iconst hC dL_law_1398 kn_iconst_5 ?_
  refine qi_iadd hC dL_law_1399 ?_
  refine qi_sld hC hL (lc_in i 5 (by omega) hLs) dL_law_1400 ?_
  refine qi_callVi hC (as := [.int (xs (nI i + (1 : Int32)).toNatClampNeg), .int (xs (nI i + (2 : Int32)).toNatClampNeg), .int (xs (nI i + (3 : Int32)).toNatClampNeg), .int (xs (nI i + (4 : Int32)).toNatClampNeg), .int (xs (nI i + (5 : Int32)).toNatClampNeg)]) (c_X6_copy _ _ m (xs (nI i + (1 : Int32)).toNatClampNeg) (xs (nI i + (2 : Int32)).toNatClampNeg) (xs (nI i + (3 : Int32)).toNatClampNeg) (xs (nI i + (4 : Int32)).toNatClampNeg) (xs (nI i + (5 : Int32)).toNatClampNeg) ((r, m1)) h1) kl_L_164 sh_0 kc_X6_copy rfl rfl (by decide) (by decide) (Nat.le_of_ble_eq_true rfl) dL_law_1401 ?_
  refine qi_aload_n hC 2 rfl rfl dL_law_1404 ?_
  refine qi_aload_n hC 0 rfl rfl dL_law_1405 ?_
  refine qi_iload_n hC 3 rfl rfl dL_law_1406 ?_
  refine qi_iconst hC dL_law_1407 kn_iconst_1 ?_
  refine qi_iadd hC dL_law_1408 ?_
  refine qi_sld hC hL (lc_in i 1 (by omega) hLs) dL_law_1409 ?_
  refine qi_aload_n hC 0 rfl rfl dL_law_1410 ?_
  refine qi_iload_n hC 3 rfl rfl dL_law_1411 ?_
  refine qi_iconst hC dL_law_1412 kn_iconst_2 ?_
  refine qi_iadd hC dL_law_1413 ?_
  refine qi_sld hC hL (lc_in i 2 (by omega) hLs) dL_law_1414 ?_
  refine qi_aload_n hC 0 rfl rfl dL_law_1415 ?_
  refine qi_iload_n hC 3 rfl rfl dL_law_1416 ?_
  refine qi_iconst hC dL_law_1417 kn_iconst_3 ?_
  refine qi_iadd hC dL_law_1418 ?_
  refine qi_sld hC hL (lc_in i 3 (by omega) hLs) dL_law_1419 ?_
  refine qi_aload_n hC 0 rfl rfl dL_law_1420 ?_
  refine qi_iload_n hC 3 rfl rfl dL_law_1421 ?_
  refine qi_iconst hC dL_law_1422 kn_iconst_4 ?_
  refine qi_iadd hC dL_law_1423 ?_
  refine qi_sld hC hL (lc_in i 4 (by omega) hLs) dL_law_1424 ?_
  refine qi_aload_n hC 0 rfl rfl dL_law_1425 ?_
  refine qi_iload_n hC 3 rfl rfl dL_law_1426 ?_
  refine qi_iconst hC dL_law_1427 kn_iconst_5 ?_
  refine qi_iadd hC dL_law_1428 ?_
  refine qi_sld hC hL (lc_in i 5 (by omega) hLs) dL_law_1429 ?_
  refine qi_callVi hC (as := [.int (xs (nI i + (1 : Int32)).toNatClampNeg), .int (xs (nI i + (2 : Int32)).toNatClampNeg), .int (xs (nI i + (3 : Int32)).toNatClampNeg), .int (xs (nI i + (4 : Int32)).toNatClampNeg), .int (xs (nI i + (5 : Int32)).toNatClampNeg)]) (c_X7_copy _ _ m1 (xs (nI i + (1 : Int32)).toNatClampNeg) (xs (nI i + (2 : Int32)).toNatClampNeg) (xs (nI i + (3 : Int32)).toNatClampNeg) (xs (nI i + (4 : Int32)).toNatClampNeg) (xs (nI i + (5 : Int32)).toNatClampNeg) ((r, m2)) h2) kl_L_168 sh_36 kc_X7_copy rfl rfl (by decide) (by decide) (Nat.le_of_ble_eq_true rfl) dL_law_1430 ?_
  exact qi_icmp_eq (tgt := 1524) hC (by decide) dL_law_1433 (fun _ => hk m2 h3) (fun h => absurd rfl h)
def qaP_buyBy (Rel : qaM → Prop) : Prop := ∀ (m : qaM) (a1 a2 a3 a4 : Int32), Rel m → ∃ (r : Int32) (m1 : qaM) (m2 : qaM), f_X6_buyBy m a1 a2 a3 a4 = some (r, m1) ∧ f_X7_buyBy m1 a1 a2 a3 a4 = some (r, m2) ∧ Rel m2
set_option maxRecDepth 100000 in
set_option maxHeartbeats 4000000 in
theorem lc_buyBy {X : qaX} {l : Launch} {Y : qaY} {b L : Nat} {xs : Nat → Int32} {m : qaM} (hC : QC X l Y cL_law RL 4 1000) (hL : QLw X b L xs) {i : Nat} (hi : i + 6 < L) (hLs : L ≤ 3584) {Rel : qaM → Prop} (hRel : Rel m) (hP : qaP_buyBy Rel) (hk : ∀ m2 : qaM, Rel m2 → QG X Y 4 m2 1524 [(0, .ref b), (1, .ref (Y.2.2.1 0)), (2, .ref (Y.2.2.1 36)), (3, .int (nI i))] []) : QG X Y 4 m 1438 [(0, .ref b), (1, .ref (Y.2.2.1 0)), (2, .ref (Y.2.2.1 36)), (3, .int (nI i))] [] := by
  obtain ⟨r, m1, m2, h1, h2, h3⟩ := hP m (xs (nI i + (1 : Int32)).toNatClampNeg) (xs (nI i + (2 : Int32)).toNatClampNeg) (xs (nI i + (3 : Int32)).toNatClampNeg) (xs (nI i + (4 : Int32)).toNatClampNeg) hRel
  refine qi_aload_n hC 1 rfl rfl dL_law_1438 ?_
  refine qi_aload_n hC 0 rfl rfl dL_law_1439 ?_
  refine qi_iload_n hC 3 rfl rfl dL_law_1440 ?_
  refine qi_iconst hC dL_law_1441 kn_iconst_1 ?_
  refine qi_iadd hC dL_law_1442 ?_
  refine qi_sld hC hL (lc_in i 1 (by omega) hLs) dL_law_1443 ?_
  refine qi_aload_n hC 0 rfl rfl dL_law_1444 ?_
  refine qi_iload_n hC 3 rfl rfl dL_law_1445 ?_
  refine qi_iconst hC dL_law_1446 kn_iconst_2 ?_
  refine qi_iadd hC dL_law_1447 ?_
  refine qi_sld hC hL (lc_in i 2 (by omega) hLs) dL_law_1448 ?_
  refine qi_aload_n hC 0 rfl rfl dL_law_1449 ?_
  refine qi_iload_n hC 3 rfl rfl dL_law_1450 ?_
  refine qi_iconst hC dL_law_1451 kn_iconst_3 ?_
  refine qi_iadd hC dL_law_1452 ?_
  refine qi_sld hC hL (lc_in i 3 (by omega) hLs) dL_law_1453 ?_
  refine qi_aload_n hC 0 rfl rfl dL_law_1454 ?_
  refine qi_iload_n hC 3 rfl rfl dL_law_1455 ?_
  refine qi_iconst hC dL_law_1456 kn_iconst_4 ?_
  refine qi_iadd hC dL_law_1457 ?_
  refine qi_sld hC hL (lc_in i 4 (by omega) hLs) dL_law_1458 ?_
  refine qi_callVi hC (as := [.int (xs (nI i + (1 : Int32)).toNatClampNeg), .int (xs (nI i + (2 : Int32)).toNatClampNeg), .int (xs (nI i + (3 : Int32)).toNatClampNeg), .int (xs (nI i + (4 : Int32)).toNatClampNeg)]) (c_X6_buyBy _ _ m (xs (nI i + (1 : Int32)).toNatClampNeg) (xs (nI i + (2 : Int32)).toNatClampNeg) (xs (nI i + (3 : Int32)).toNatClampNeg) (xs (nI i + (4 : Int32)).toNatClampNeg) ((r, m1)) h1) kl_L_169 sh_0 kc_X6_buyBy rfl rfl (by decide) (by decide) (Nat.le_of_ble_eq_true rfl) dL_law_1459 ?_
  refine qi_aload_n hC 2 rfl rfl dL_law_1462 ?_
  refine qi_aload_n hC 0 rfl rfl dL_law_1463 ?_
  refine qi_iload_n hC 3 rfl rfl dL_law_1464 ?_
  refine qi_iconst hC dL_law_1465 kn_iconst_1 ?_
  refine qi_iadd hC dL_law_1466 ?_
  refine qi_sld hC hL (lc_in i 1 (by omega) hLs) dL_law_1467 ?_
  refine qi_aload_n hC 0 rfl rfl dL_law_1468 ?_
  refine qi_iload_n hC 3 rfl rfl dL_law_1469 ?_
  refine qi_iconst hC dL_law_1470 kn_iconst_2 ?_
  refine qi_iadd hC dL_law_1471 ?_
  refine qi_sld hC hL (lc_in i 2 (by omega) hLs) dL_law_1472 ?_
  refine qi_aload_n hC 0 rfl rfl dL_law_1473 ?_
  refine qi_iload_n hC 3 rfl rfl dL_law_1474 ?_
  refine qi_iconst hC dL_law_1475 kn_iconst_3 ?_
  refine qi_iadd hC dL_law_1476 ?_
  refine qi_sld hC hL (lc_in i 3 (by omega) hLs) dL_law_1477 ?_
  refine qi_aload_n hC 0 rfl rfl dL_law_1478 ?_
  refine qi_iload_n hC 3 rfl rfl dL_law_1479 ?_
  refine qi_iconst hC dL_law_1480 kn_iconst_4 ?_
  refine qi_iadd hC dL_law_1481 ?_
  refine qi_sld hC hL (lc_in i 4 (by omega) hLs) dL_law_1482 ?_
  refine qi_callVi hC (as := [.int (xs (nI i + (1 : Int32)).toNatClampNeg), .int (xs (nI i + (2 : Int32)).toNatClampNeg), .int (xs (nI i + (3 : Int32)).toNatClampNeg), .int (xs (nI i + (4 : Int32)).toNatClampNeg)]) (c_X7_buyBy _ _ m1 (xs (nI i + (1 : Int32)).toNatClampNeg) (xs (nI i + (2 : Int32)).toNatClampNeg) (xs (nI i + (3 : Int32)).toNatClampNeg) (xs (nI i + (4 : Int32)).toNatClampNeg) ((r, m2)) h2) kl_L_172 sh_36 kc_X7_buyBy rfl rfl (by decide) (by decide) (Nat.le_of_ble_eq_true rfl) dL_law_1483 ?_
  exact qi_icmp_eq (tgt := 1524) hC (by decide) dL_law_1486 (fun _ => hk m2 h3) (fun h => absurd rfl h)
def qaP_taken (Rel : qaM → Prop) : Prop := ∀ (m : qaM) (a1 a2 : Int32), Rel m → ∃ (r : Int32), f_X6_taken m a1 a2 = some r ∧ f_X7_taken m a1 a2 = some r ∧ Rel m
set_option maxRecDepth 100000 in
set_option maxHeartbeats 4000000 in
theorem lc_taken {X : qaX} {l : Launch} {Y : qaY} {b L : Nat} {xs : Nat → Int32} {m : qaM} (hC : QC X l Y cL_law RL 4 1000) (hL : QLw X b L xs) {i : Nat} (hi : i + 6 < L) (hLs : L ≤ 3584) {Rel : qaM → Prop} (hRel : Rel m) (hP : qaP_taken Rel) (hk : ∀ m2 : qaM, Rel m2 → QG X Y 4 m2 1524 [(0, .ref b), (1, .ref (Y.2.2.1 0)), (2, .ref (Y.2.2.1 36)), (3, .int (nI i))] []) : QG X Y 4 m 1491 [(0, .ref b), (1, .ref (Y.2.2.1 0)), (2, .ref (Y.2.2.1 36)), (3, .int (nI i))] [] := by
  obtain ⟨r, h1, h2, h3⟩ := hP m (xs (nI i + (1 : Int32)).toNatClampNeg) (xs (nI i + (2 : Int32)).toNatClampNeg) hRel
  refine qi_aload_n hC 1 rfl rfl dL_law_1491 ?_
  refine qi_aload_n hC 0 rfl rfl dL_law_1492 ?_
  refine qi_iload_n hC 3 rfl rfl dL_law_1493 ?_
  refine qi_iconst hC dL_law_1494 kn_iconst_1 ?_
  refine qi_iadd hC dL_law_1495 ?_
  refine qi_sld hC hL (lc_in i 1 (by omega) hLs) dL_law_1496 ?_
  refine qi_aload_n hC 0 rfl rfl dL_law_1497 ?_
  refine qi_iload_n hC 3 rfl rfl dL_law_1498 ?_
  refine qi_iconst hC dL_law_1499 kn_iconst_2 ?_
  refine qi_iadd hC dL_law_1500 ?_
  refine qi_sld hC hL (lc_in i 2 (by omega) hLs) dL_law_1501 ?_
  refine qi_callVi hC (as := [.int (xs (nI i + (1 : Int32)).toNatClampNeg), .int (xs (nI i + (2 : Int32)).toNatClampNeg)]) (c_X6_taken _ _ m (xs (nI i + (1 : Int32)).toNatClampNeg) (xs (nI i + (2 : Int32)).toNatClampNeg) (r) h1) kl_L_173 sh_0 kc_X6_taken rfl rfl (by decide) (by decide) (Nat.le_of_ble_eq_true rfl) dL_law_1502 ?_
  refine qi_aload_n hC 2 rfl rfl dL_law_1505 ?_
  refine qi_aload_n hC 0 rfl rfl dL_law_1506 ?_
  refine qi_iload_n hC 3 rfl rfl dL_law_1507 ?_
  refine qi_iconst hC dL_law_1508 kn_iconst_1 ?_
  refine qi_iadd hC dL_law_1509 ?_
  refine qi_sld hC hL (lc_in i 1 (by omega) hLs) dL_law_1510 ?_
  refine qi_aload_n hC 0 rfl rfl dL_law_1511 ?_
  refine qi_iload_n hC 3 rfl rfl dL_law_1512 ?_
  refine qi_iconst hC dL_law_1513 kn_iconst_2 ?_
  refine qi_iadd hC dL_law_1514 ?_
  refine qi_sld hC hL (lc_in i 2 (by omega) hLs) dL_law_1515 ?_
  refine qi_callVi hC (as := [.int (xs (nI i + (1 : Int32)).toNatClampNeg), .int (xs (nI i + (2 : Int32)).toNatClampNeg)]) (c_X7_taken _ _ m (xs (nI i + (1 : Int32)).toNatClampNeg) (xs (nI i + (2 : Int32)).toNatClampNeg) (r) h2) kl_L_176 sh_36 kc_X7_taken rfl rfl (by decide) (by decide) (Nat.le_of_ble_eq_true rfl) dL_law_1516 ?_
  exact qi_icmp_eq (tgt := 1524) hC (by decide) dL_law_1519 (fun _ => hk m h3) (fun h => absurd rfl h)
def qaP_all (Rel : qaM → Prop) : Prop := qaP_count Rel ∧ qaP_set Rel ∧ qaP_feed Rel ∧ qaP_text Rel ∧ qaP_force Rel ∧ qaP_asks Rel ∧ qaP_buy Rel ∧ qaP_told Rel ∧ qaP_put Rel ∧ qaP_lies Rel ∧ qaP_turn Rel ∧ qaP_next Rel ∧ qaP_pileUp Rel ∧ qaP_live Rel ∧ qaP_run Rel ∧ qaP_then Rel ∧ qaP_cost Rel ∧ qaP_rules Rel ∧ qaP_which Rel ∧ qaP_when Rel ∧ qaP_enough Rel ∧ qaP_feast Rel ∧ qaP_laundry Rel ∧ qaP_judge Rel ∧ qaP_rulesOf Rel ∧ qaP_kinds Rel ∧ qaP_wants Rel ∧ qaP_weeks Rel ∧ qaP_laws Rel ∧ qaP_film Rel ∧ qaP_drawn Rel ∧ qaP_odds Rel ∧ qaP_image Rel ∧ qaP_back Rel ∧ qaP_sheet Rel ∧ qaP_cell Rel ∧ qaP_copy Rel ∧ qaP_buyBy Rel ∧ qaP_taken Rel
set_option maxRecDepth 100000 in
set_option maxHeartbeats 4000000 in
theorem lc_loop {X : qaX} {l : Launch} {Y : qaY} {b L : Nat} {xs : Nat → Int32} (hC : QC X l Y cL_law RL 4 1000) (hL : QLw X b L xs) (hLs : L ≤ 3584) {Rel : qaM → Prop} (hP : qaP_all Rel) (hret : ∀ (m : qaM) (lv : List (Nat × Value)), QG X Y 4 m 1531 lv [.int 1]) : ∀ (n i : Nat) (m : qaM), Rel m → i ≤ L → L + 1 ≤ i + n → QG X Y 4 m 18 [(0, .ref b), (1, .ref (Y.2.2.1 0)), (2, .ref (Y.2.2.1 36)), (3, .int (nI i))] [] := by
  intro n
  induction n with
  | zero =>
    intro i m _ h1 h2
    omega
  | succ n ih =>
    intro i m hRel h1 h2
    have hk : i + 7 ≤ L → ∀ m2 : qaM, Rel m2 → QG X Y 4 m2 1524 [(0, .ref b), (1, .ref (Y.2.2.1 0)), (2, .ref (Y.2.2.1 36)), (3, .int (nI i))] [] := by
      intro h7 m2 hRel2
      refine qi_iinc hC (n := 7) (v := nI (i + 7)) 3 rfl (by rw [show Int32.ofInt 7 = nI 7 from by decide, nI_add]) (by decide) rfl dL_law_1524 ?_
      refine qi_goto (tgt := 18) hC (by decide) dL_law_1527 ?_
      refine qi_sub hC [1, 2, 3, 0] rfl ?_
      exact ih (i + 7) m2 hRel2 h7 (by omega)
    refine qi_iload_n hC 3 rfl rfl dL_law_18 ?_
    refine qi_aload_n hC 0 rfl rfl dL_law_19 ?_
    refine qi_slen hC hL dL_law_20 ?_
    refine qi_bipush hC (v := 7) dL_law_21 (by decide) ?_
    refine qi_isub hC dL_law_23 ?_
    refine qi_icmp_gt (tgt := 1530) hC (by decide) dL_law_24 (fun h => ?_) (fun h => ?_)
    · refine qi_iconst hC (v := 1) dL_law_1530 (by decide) ?_
      exact hret m _
    · have h7 : i + 7 ≤ L := by
        rcases Nat.lt_or_ge L (i + 7) with q | q
        · refine absurd ?_ h
          rw [Int32.lt_iff_toInt_lt, show (7 : Int32) = nI 7 from by decide, pk_sub_toInt (by omega) (by omega), nI_toInt (by omega)]
          omega
        · exact q
      have hk := hk h7
      refine qi_aload_n hC 0 rfl rfl dL_law_27 ?_
      refine qi_iload_n hC 3 rfl rfl dL_law_28 ?_
      refine qi_sld hC hL (lc_in0 i (by omega) hLs) dL_law_29 ?_
      refine qi_bipush hC (v := 63) dL_law_30 (by decide) ?_
      refine qi_iand hC dL_law_32 ?_
      obtain ⟨w, hw⟩ : ∃ w, w = xs (nI i).toNatClampNeg &&& 63 := ⟨_, rfl⟩
      refine qi_nmi hC hw ?_
      by_cases h0 : w = (0 : Int32)
      · refine qi_tabIn (tgt := 204) (off := 171) hC dL_law_33 (by rw [h0] <;> decide) (by rw [h0] <;> decide) (by rw [h0] <;> decide) (by decide) ?_
        exact lc_count hC hL (by omega) hLs hRel hP.1 hk
      by_cases h1 : w = (1 : Int32)
      · refine qi_tabIn (tgt := 227) (off := 194) hC dL_law_33 (by rw [h1] <;> decide) (by rw [h1] <;> decide) (by rw [h1] <;> decide) (by decide) ?_
        exact lc_set hC hL (by omega) hLs hRel hP.2.1 hk
      by_cases h2 : w = (2 : Int32)
      · refine qi_tabIn (tgt := 260) (off := 227) hC dL_law_33 (by rw [h2] <;> decide) (by rw [h2] <;> decide) (by rw [h2] <;> decide) (by decide) ?_
        exact lc_feed hC hL (by omega) hLs hRel hP.2.2.1 hk
      by_cases h3 : w = (3 : Int32)
      · refine qi_tabIn (tgt := 335) (off := 302) hC dL_law_33 (by rw [h3] <;> decide) (by rw [h3] <;> decide) (by rw [h3] <;> decide) (by decide) ?_
        exact lc_text hC hL (by omega) hLs hRel hP.2.2.2.1 hk
      by_cases h4 : w = (4 : Int32)
      · refine qi_tabIn (tgt := 348) (off := 315) hC dL_law_33 (by rw [h4] <;> decide) (by rw [h4] <;> decide) (by rw [h4] <;> decide) (by decide) ?_
        exact lc_force hC hL (by omega) hLs hRel hP.2.2.2.2.1 hk
      by_cases h5 : w = (5 : Int32)
      · refine qi_tabIn (tgt := 371) (off := 338) hC dL_law_33 (by rw [h5] <;> decide) (by rw [h5] <;> decide) (by rw [h5] <;> decide) (by decide) ?_
        exact lc_asks hC hL (by omega) hLs hRel hP.2.2.2.2.2.1 hk
      by_cases h6 : w = (6 : Int32)
      · refine qi_tabIn (tgt := 424) (off := 391) hC dL_law_33 (by rw [h6] <;> decide) (by rw [h6] <;> decide) (by rw [h6] <;> decide) (by decide) ?_
        exact lc_buy hC hL (by omega) hLs hRel hP.2.2.2.2.2.2.1 hk
      by_cases h7 : w = (7 : Int32)
      · refine qi_tabIn (tgt := 457) (off := 424) hC dL_law_33 (by rw [h7] <;> decide) (by rw [h7] <;> decide) (by rw [h7] <;> decide) (by decide) ?_
        exact lc_told hC hL (by omega) hLs hRel hP.2.2.2.2.2.2.2.1 hk
      by_cases h8 : w = (8 : Int32)
      · refine qi_tabIn (tgt := 490) (off := 457) hC dL_law_33 (by rw [h8] <;> decide) (by rw [h8] <;> decide) (by rw [h8] <;> decide) (by decide) ?_
        exact lc_put hC hL (by omega) hLs hRel hP.2.2.2.2.2.2.2.2.1 hk
      by_cases h9 : w = (9 : Int32)
      · refine qi_tabIn (tgt := 533) (off := 500) hC dL_law_33 (by rw [h9] <;> decide) (by rw [h9] <;> decide) (by rw [h9] <;> decide) (by decide) ?_
        exact lc_lies hC hL (by omega) hLs hRel hP.2.2.2.2.2.2.2.2.2.1 hk
      by_cases h10 : w = (10 : Int32)
      · refine qi_tabIn (tgt := 556) (off := 523) hC dL_law_33 (by rw [h10] <;> decide) (by rw [h10] <;> decide) (by rw [h10] <;> decide) (by decide) ?_
        exact lc_turn hC hL (by omega) hLs hRel hP.2.2.2.2.2.2.2.2.2.2.1 hk
      by_cases h11 : w = (11 : Int32)
      · refine qi_tabIn (tgt := 579) (off := 546) hC dL_law_33 (by rw [h11] <;> decide) (by rw [h11] <;> decide) (by rw [h11] <;> decide) (by decide) ?_
        exact lc_next hC hL (by omega) hLs hRel hP.2.2.2.2.2.2.2.2.2.2.2.1 hk
      by_cases h12 : w = (12 : Int32)
      · refine qi_tabIn (tgt := 592) (off := 559) hC dL_law_33 (by rw [h12] <;> decide) (by rw [h12] <;> decide) (by rw [h12] <;> decide) (by decide) ?_
        exact lc_pileUp hC hL (by omega) hLs hRel hP.2.2.2.2.2.2.2.2.2.2.2.2.1 hk
      by_cases h13 : w = (13 : Int32)
      · refine qi_tabIn (tgt := 615) (off := 582) hC dL_law_33 (by rw [h13] <;> decide) (by rw [h13] <;> decide) (by rw [h13] <;> decide) (by decide) ?_
        exact lc_live hC hL (by omega) hLs hRel hP.2.2.2.2.2.2.2.2.2.2.2.2.2.1 hk
      by_cases h14 : w = (14 : Int32)
      · refine qi_tabIn (tgt := 628) (off := 595) hC dL_law_33 (by rw [h14] <;> decide) (by rw [h14] <;> decide) (by rw [h14] <;> decide) (by decide) ?_
        exact lc_run hC hL (by omega) hLs hRel hP.2.2.2.2.2.2.2.2.2.2.2.2.2.2.1 hk
      by_cases h15 : w = (15 : Int32)
      · refine qi_tabIn (tgt := 661) (off := 628) hC dL_law_33 (by rw [h15] <;> decide) (by rw [h15] <;> decide) (by rw [h15] <;> decide) (by decide) ?_
        exact lc_then hC hL (by omega) hLs hRel hP.2.2.2.2.2.2.2.2.2.2.2.2.2.2.2.1 hk
      by_cases h16 : w = (16 : Int32)
      · refine qi_tabIn (tgt := 704) (off := 671) hC dL_law_33 (by rw [h16] <;> decide) (by rw [h16] <;> decide) (by rw [h16] <;> decide) (by decide) ?_
        exact lc_cost hC hL (by omega) hLs hRel hP.2.2.2.2.2.2.2.2.2.2.2.2.2.2.2.2.1 hk
      by_cases h17 : w = (17 : Int32)
      · refine qi_tabIn (tgt := 727) (off := 694) hC dL_law_33 (by rw [h17] <;> decide) (by rw [h17] <;> decide) (by rw [h17] <;> decide) (by decide) ?_
        exact lc_rules hC hL (by omega) hLs hRel hP.2.2.2.2.2.2.2.2.2.2.2.2.2.2.2.2.2.1 hk
      by_cases h18 : w = (18 : Int32)
      · refine qi_tabIn (tgt := 760) (off := 727) hC dL_law_33 (by rw [h18] <;> decide) (by rw [h18] <;> decide) (by rw [h18] <;> decide) (by decide) ?_
        exact lc_which hC hL (by omega) hLs hRel hP.2.2.2.2.2.2.2.2.2.2.2.2.2.2.2.2.2.2.1 hk
      by_cases h19 : w = (19 : Int32)
      · refine qi_tabIn (tgt := 783) (off := 750) hC dL_law_33 (by rw [h19] <;> decide) (by rw [h19] <;> decide) (by rw [h19] <;> decide) (by decide) ?_
        exact lc_when hC hL (by omega) hLs hRel hP.2.2.2.2.2.2.2.2.2.2.2.2.2.2.2.2.2.2.2.1 hk
      by_cases h20 : w = (20 : Int32)
      · refine qi_tabIn (tgt := 826) (off := 793) hC dL_law_33 (by rw [h20] <;> decide) (by rw [h20] <;> decide) (by rw [h20] <;> decide) (by decide) ?_
        exact lc_enough hC hL (by omega) hLs hRel hP.2.2.2.2.2.2.2.2.2.2.2.2.2.2.2.2.2.2.2.2.1 hk
      by_cases h21 : w = (21 : Int32)
      · refine qi_tabIn (tgt := 849) (off := 816) hC dL_law_33 (by rw [h21] <;> decide) (by rw [h21] <;> decide) (by rw [h21] <;> decide) (by decide) ?_
        exact lc_feast hC hL (by omega) hLs hRel hP.2.2.2.2.2.2.2.2.2.2.2.2.2.2.2.2.2.2.2.2.2.1 hk
      by_cases h22 : w = (22 : Int32)
      · refine qi_tabIn (tgt := 892) (off := 859) hC dL_law_33 (by rw [h22] <;> decide) (by rw [h22] <;> decide) (by rw [h22] <;> decide) (by decide) ?_
        exact lc_laundry hC hL (by omega) hLs hRel hP.2.2.2.2.2.2.2.2.2.2.2.2.2.2.2.2.2.2.2.2.2.2.1 hk
      by_cases h23 : w = (23 : Int32)
      · refine qi_tabIn (tgt := 915) (off := 882) hC dL_law_33 (by rw [h23] <;> decide) (by rw [h23] <;> decide) (by rw [h23] <;> decide) (by decide) ?_
        exact lc_judge hC hL (by omega) hLs hRel hP.2.2.2.2.2.2.2.2.2.2.2.2.2.2.2.2.2.2.2.2.2.2.2.1 hk
      by_cases h24 : w = (24 : Int32)
      · refine qi_tabIn (tgt := 948) (off := 915) hC dL_law_33 (by rw [h24] <;> decide) (by rw [h24] <;> decide) (by rw [h24] <;> decide) (by decide) ?_
        exact lc_rulesOf hC hL (by omega) hLs hRel hP.2.2.2.2.2.2.2.2.2.2.2.2.2.2.2.2.2.2.2.2.2.2.2.2.1 hk
      by_cases h25 : w = (25 : Int32)
      · refine qi_tabIn (tgt := 981) (off := 948) hC dL_law_33 (by rw [h25] <;> decide) (by rw [h25] <;> decide) (by rw [h25] <;> decide) (by decide) ?_
        exact lc_kinds hC hL (by omega) hLs hRel hP.2.2.2.2.2.2.2.2.2.2.2.2.2.2.2.2.2.2.2.2.2.2.2.2.2.1 hk
      by_cases h26 : w = (26 : Int32)
      · refine qi_tabIn (tgt := 1024) (off := 991) hC dL_law_33 (by rw [h26] <;> decide) (by rw [h26] <;> decide) (by rw [h26] <;> decide) (by decide) ?_
        exact lc_wants hC hL (by omega) hLs hRel hP.2.2.2.2.2.2.2.2.2.2.2.2.2.2.2.2.2.2.2.2.2.2.2.2.2.2.1 hk
      by_cases h27 : w = (27 : Int32)
      · refine qi_tabIn (tgt := 1067) (off := 1034) hC dL_law_33 (by rw [h27] <;> decide) (by rw [h27] <;> decide) (by rw [h27] <;> decide) (by decide) ?_
        exact lc_weeks hC hL (by omega) hLs hRel hP.2.2.2.2.2.2.2.2.2.2.2.2.2.2.2.2.2.2.2.2.2.2.2.2.2.2.2.1 hk
      by_cases h28 : w = (28 : Int32)
      · refine qi_tabIn (tgt := 1100) (off := 1067) hC dL_law_33 (by rw [h28] <;> decide) (by rw [h28] <;> decide) (by rw [h28] <;> decide) (by decide) ?_
        exact lc_laws hC hL (by omega) hLs hRel hP.2.2.2.2.2.2.2.2.2.2.2.2.2.2.2.2.2.2.2.2.2.2.2.2.2.2.2.2.1 hk
      by_cases h29 : w = (29 : Int32)
      · refine qi_tabIn (tgt := 1133) (off := 1100) hC dL_law_33 (by rw [h29] <;> decide) (by rw [h29] <;> decide) (by rw [h29] <;> decide) (by decide) ?_
        exact lc_film hC hL (by omega) hLs hRel hP.2.2.2.2.2.2.2.2.2.2.2.2.2.2.2.2.2.2.2.2.2.2.2.2.2.2.2.2.2.1 hk
      by_cases h30 : w = (30 : Int32)
      · refine qi_tabIn (tgt := 1166) (off := 1133) hC dL_law_33 (by rw [h30] <;> decide) (by rw [h30] <;> decide) (by rw [h30] <;> decide) (by decide) ?_
        exact lc_drawn hC hL (by omega) hLs hRel hP.2.2.2.2.2.2.2.2.2.2.2.2.2.2.2.2.2.2.2.2.2.2.2.2.2.2.2.2.2.2.1 hk
      by_cases h31 : w = (31 : Int32)
      · refine qi_tabIn (tgt := 1209) (off := 1176) hC dL_law_33 (by rw [h31] <;> decide) (by rw [h31] <;> decide) (by rw [h31] <;> decide) (by decide) ?_
        exact lc_odds hC hL (by omega) hLs hRel hP.2.2.2.2.2.2.2.2.2.2.2.2.2.2.2.2.2.2.2.2.2.2.2.2.2.2.2.2.2.2.2.1 hk
      by_cases h32 : w = (32 : Int32)
      · refine qi_tabIn (tgt := 1263) (off := 1230) hC dL_law_33 (by rw [h32] <;> decide) (by rw [h32] <;> decide) (by rw [h32] <;> decide) (by decide) ?_
        exact lc_image hC hL (by omega) hLs hRel hP.2.2.2.2.2.2.2.2.2.2.2.2.2.2.2.2.2.2.2.2.2.2.2.2.2.2.2.2.2.2.2.2.1 hk
      by_cases h33 : w = (33 : Int32)
      · refine qi_tabIn (tgt := 1276) (off := 1243) hC dL_law_33 (by rw [h33] <;> decide) (by rw [h33] <;> decide) (by rw [h33] <;> decide) (by decide) ?_
        exact lc_back hC hL (by omega) hLs hRel hP.2.2.2.2.2.2.2.2.2.2.2.2.2.2.2.2.2.2.2.2.2.2.2.2.2.2.2.2.2.2.2.2.2.1 hk
      by_cases h34 : w = (34 : Int32)
      · refine qi_tabIn (tgt := 1289) (off := 1256) hC dL_law_33 (by rw [h34] <;> decide) (by rw [h34] <;> decide) (by rw [h34] <;> decide) (by decide) ?_
        exact lc_sheet hC hL (by omega) hLs hRel hP.2.2.2.2.2.2.2.2.2.2.2.2.2.2.2.2.2.2.2.2.2.2.2.2.2.2.2.2.2.2.2.2.2.2.1 hk
      by_cases h35 : w = (35 : Int32)
      · refine qi_tabIn (tgt := 1332) (off := 1299) hC dL_law_33 (by rw [h35] <;> decide) (by rw [h35] <;> decide) (by rw [h35] <;> decide) (by decide) ?_
        exact lc_cell hC hL (by omega) hLs hRel hP.2.2.2.2.2.2.2.2.2.2.2.2.2.2.2.2.2.2.2.2.2.2.2.2.2.2.2.2.2.2.2.2.2.2.2.1 hk
      by_cases h36 : w = (36 : Int32)
      · refine qi_tabIn (tgt := 1375) (off := 1342) hC dL_law_33 (by rw [h36] <;> decide) (by rw [h36] <;> decide) (by rw [h36] <;> decide) (by decide) ?_
        exact lc_copy hC hL (by omega) hLs hRel hP.2.2.2.2.2.2.2.2.2.2.2.2.2.2.2.2.2.2.2.2.2.2.2.2.2.2.2.2.2.2.2.2.2.2.2.2.1 hk
      by_cases h37 : w = (37 : Int32)
      · refine qi_tabIn (tgt := 1438) (off := 1405) hC dL_law_33 (by rw [h37] <;> decide) (by rw [h37] <;> decide) (by rw [h37] <;> decide) (by decide) ?_
        exact lc_buyBy hC hL (by omega) hLs hRel hP.2.2.2.2.2.2.2.2.2.2.2.2.2.2.2.2.2.2.2.2.2.2.2.2.2.2.2.2.2.2.2.2.2.2.2.2.2.1 hk
      by_cases h38 : w = (38 : Int32)
      · refine qi_tabIn (tgt := 1491) (off := 1458) hC dL_law_33 (by rw [h38] <;> decide) (by rw [h38] <;> decide) (by rw [h38] <;> decide) (by decide) ?_
        exact lc_taken hC hL (by omega) hLs hRel hP.2.2.2.2.2.2.2.2.2.2.2.2.2.2.2.2.2.2.2.2.2.2.2.2.2.2.2.2.2.2.2.2.2.2.2.2.2.2 hk
      refine qi_tabOut (tgt := 1524) hC dL_law_33 (by have n0 := lv_neT (a := 0) h0 (by decide); have n1 := lv_neT (a := 1) h1 (by decide); have n2 := lv_neT (a := 2) h2 (by decide); have n3 := lv_neT (a := 3) h3 (by decide); have n4 := lv_neT (a := 4) h4 (by decide); have n5 := lv_neT (a := 5) h5 (by decide); have n6 := lv_neT (a := 6) h6 (by decide); have n7 := lv_neT (a := 7) h7 (by decide); have n8 := lv_neT (a := 8) h8 (by decide); have n9 := lv_neT (a := 9) h9 (by decide); have n10 := lv_neT (a := 10) h10 (by decide); have n11 := lv_neT (a := 11) h11 (by decide); have n12 := lv_neT (a := 12) h12 (by decide); have n13 := lv_neT (a := 13) h13 (by decide); have n14 := lv_neT (a := 14) h14 (by decide); have n15 := lv_neT (a := 15) h15 (by decide); have n16 := lv_neT (a := 16) h16 (by decide); have n17 := lv_neT (a := 17) h17 (by decide); have n18 := lv_neT (a := 18) h18 (by decide); have n19 := lv_neT (a := 19) h19 (by decide); have n20 := lv_neT (a := 20) h20 (by decide); have n21 := lv_neT (a := 21) h21 (by decide); have n22 := lv_neT (a := 22) h22 (by decide); have n23 := lv_neT (a := 23) h23 (by decide); have n24 := lv_neT (a := 24) h24 (by decide); have n25 := lv_neT (a := 25) h25 (by decide); have n26 := lv_neT (a := 26) h26 (by decide); have n27 := lv_neT (a := 27) h27 (by decide); have n28 := lv_neT (a := 28) h28 (by decide); have n29 := lv_neT (a := 29) h29 (by decide); have n30 := lv_neT (a := 30) h30 (by decide); have n31 := lv_neT (a := 31) h31 (by decide); have n32 := lv_neT (a := 32) h32 (by decide); have n33 := lv_neT (a := 33) h33 (by decide); have n34 := lv_neT (a := 34) h34 (by decide); have n35 := lv_neT (a := 35) h35 (by decide); have n36 := lv_neT (a := 36) h36 (by decide); have n37 := lv_neT (a := 37) h37 (by decide); have n38 := lv_neT (a := 38) h38 (by decide); omega) (by decide) ?_
      exact hk m hRel
