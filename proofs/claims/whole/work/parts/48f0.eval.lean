/-! evaluation step by step: nothing is looked at before its turn -/
set_option maxHeartbeats 200000 in
theorem x_c {n : Int} {L : ol_L} {h : ol_H} : ei_c n L h = some (n, h) := id rfl
def q_fi (v : Option ol_V) (h : ol_H) : Option (Int × ol_H) := (ol_int v).bind fun n => some (n, h)
def q_fr (v : Option ol_V) (h : ol_H) : Option (Nat × ol_H) := (ol_ref v).bind fun n => some (n, h)
def q_fj (v : Option ol_V) (h : ol_H) : Option (Int64 × ol_H) := (ol_lng v).bind fun n => some (n, h)
set_option maxHeartbeats 200000 in
theorem x_fi {n : Int} {h : ol_H} : q_fi (some (.inl n)) h = some (n, h) := id rfl
set_option maxHeartbeats 200000 in
theorem x_fr {n : Nat} {h : ol_H} : q_fr (some (.inr (.inl (some n)))) h = some (n, h) := id rfl
set_option maxHeartbeats 200000 in
theorem x_fj {n : Int64} {h : ol_H} : q_fj (some (.inr (.inr n))) h = some (n, h) := id rfl
set_option maxHeartbeats 200000 in
theorem x_vi {i : Nat} {L : ol_L} {h : ol_H} : ei_v i L h = q_fi L[i]? h := id rfl
set_option maxHeartbeats 200000 in
theorem x_vr {i : Nat} {L : ol_L} {h : ol_H} : er_v i L h = q_fr L[i]? h := id rfl
set_option maxHeartbeats 200000 in
theorem x_vj {i : Nat} {L : ol_L} {h : ol_H} : ej_v i L h = q_fj L[i]? h := id rfl
def q_fi2 (ci j : Nat) (x : Option (Nat × ol_H)) : Option (Int × ol_H) := x.bind fun p => q_fi (ol_fld p.2 ci p.1 j) p.2
set_option maxHeartbeats 200000 in
theorem x_fi1 {ci j : Nat} {r : ol_RE} {L : ol_L} {h : ol_H} : ei_f ci j r L h = q_fi2 ci j (r L h) := id rfl
set_option maxHeartbeats 200000 in
theorem x_fi2 {ci j a : Nat} {h : ol_H} : q_fi2 ci j (some (a, h)) = q_fi (ol_fld h ci a j) h := id rfl
def q_fr2 (ci j : Nat) (x : Option (Nat × ol_H)) : Option (Nat × ol_H) := x.bind fun p => q_fr (ol_fld p.2 ci p.1 j) p.2
set_option maxHeartbeats 200000 in
theorem x_fr1 {ci j : Nat} {r : ol_RE} {L : ol_L} {h : ol_H} : er_f ci j r L h = q_fr2 ci j (r L h) := id rfl
set_option maxHeartbeats 200000 in
theorem x_fr2 {ci j a : Nat} {h : ol_H} : q_fr2 ci j (some (a, h)) = q_fr (ol_fld h ci a j) h := id rfl
def q_fj2 (ci j : Nat) (x : Option (Nat × ol_H)) : Option (Int64 × ol_H) := x.bind fun p => q_fj (ol_fld p.2 ci p.1 j) p.2
set_option maxHeartbeats 200000 in
theorem x_fj1 {ci j : Nat} {r : ol_RE} {L : ol_L} {h : ol_H} : ej_f ci j r L h = q_fj2 ci j (r L h) := id rfl
set_option maxHeartbeats 200000 in
theorem x_fj2 {ci j a : Nat} {h : ol_H} : q_fj2 ci j (some (a, h)) = q_fj (ol_fld h ci a j) h := id rfl
def q_ai (k : Nat) (x : Option (Nat × ol_H)) (e : ol_IE) (L : ol_L) : Option (Int × ol_H) := x.bind fun p => (e L p.2).bind fun q => q_fi (ol_arr q.2 k p.1 q.1) q.2
def q_ai2 (k a : Nat) (y : Option (Int × ol_H)) : Option (Int × ol_H) := y.bind fun q => q_fi (ol_arr q.2 k a q.1) q.2
set_option maxHeartbeats 200000 in
theorem x_ai1 {k : Nat} {r : ol_RE} {e : ol_IE} {L : ol_L} {h : ol_H} : ei_a k r e L h = q_ai k (r L h) e L := id rfl
set_option maxHeartbeats 200000 in
theorem x_ai2 {k a : Nat} {e : ol_IE} {L : ol_L} {h : ol_H} : q_ai k (some (a, h)) e L = q_ai2 k a (e L h) := id rfl
set_option maxHeartbeats 200000 in
theorem x_ai3 {k a : Nat} {i : Int} {h : ol_H} : q_ai2 k a (some (i, h)) = q_fi (ol_arr h k a i) h := id rfl
def q_ar (k : Nat) (x : Option (Nat × ol_H)) (e : ol_IE) (L : ol_L) : Option (Nat × ol_H) := x.bind fun p => (e L p.2).bind fun q => q_fr (ol_arr q.2 k p.1 q.1) q.2
def q_ar2 (k a : Nat) (y : Option (Int × ol_H)) : Option (Nat × ol_H) := y.bind fun q => q_fr (ol_arr q.2 k a q.1) q.2
set_option maxHeartbeats 200000 in
theorem x_ar1 {k : Nat} {r : ol_RE} {e : ol_IE} {L : ol_L} {h : ol_H} : er_a k r e L h = q_ar k (r L h) e L := id rfl
set_option maxHeartbeats 200000 in
theorem x_ar2 {k a : Nat} {e : ol_IE} {L : ol_L} {h : ol_H} : q_ar k (some (a, h)) e L = q_ar2 k a (e L h) := id rfl
set_option maxHeartbeats 200000 in
theorem x_ar3 {k a : Nat} {i : Int} {h : ol_H} : q_ar2 k a (some (i, h)) = q_fr (ol_arr h k a i) h := id rfl
def q_t (t : Nat) (y : Option (Int × ol_H)) : Option (Int × ol_H) := y.bind fun q => if 0 ≤ q.1 ∧ q.1 < (ol_tabn t : Int) then some (ol_tab t q.1.toNat, q.2) else none
set_option maxHeartbeats 200000 in
theorem x_t1 {t : Nat} {e : ol_IE} {L : ol_L} {h : ol_H} : ei_t t e L h = q_t t (e L h) := id rfl
set_option maxHeartbeats 200000 in
theorem x_t2 {n : Int} {h : ol_H} (h0 : 0 ≤ n) (h1 : n < 10) : q_t 0 (some (n, h)) = some (ol_tab 0 n.toNat, h) := if_pos ⟨h0, h1⟩
set_option maxHeartbeats 200000 in
theorem x_t3 {n : Int} {h : ol_H} (h0 : 0 ≤ n) (h1 : n < 6) : q_t 1 (some (n, h)) = some (ol_tab 1 n.toNat, h) := if_pos ⟨h0, h1⟩
set_option maxHeartbeats 200000 in
theorem x_t4 {n : Int} {h : ol_H} (h0 : 0 ≤ n) (h1 : n < 6) : q_t 2 (some (n, h)) = some (ol_tab 2 n.toNat, h) := if_pos ⟨h0, h1⟩
def q_2 (f : Int → Int → Option Int) (x : Option (Int × ol_H)) (b : ol_IE) (L : ol_L) : Option (Int × ol_H) := x.bind fun p => (b L p.2).bind fun q => (f p.1 q.1).bind fun n => some (n, q.2)
def q_2b (f : Int → Int → Option Int) (m : Int) (y : Option (Int × ol_H)) : Option (Int × ol_H) := y.bind fun q => (f m q.1).bind fun n => some (n, q.2)
def q_2c (r : Option Int) (h : ol_H) : Option (Int × ol_H) := r.bind fun n => some (n, h)
set_option maxHeartbeats 200000 in
theorem x_21 {f : Int → Int → Option Int} {a b : ol_IE} {L : ol_L} {h : ol_H} : ei_2 f a b L h = q_2 f (a L h) b L := id rfl
set_option maxHeartbeats 200000 in
theorem x_22 {f : Int → Int → Option Int} {m : Int} {b : ol_IE} {L : ol_L} {h : ol_H} : q_2 f (some (m, h)) b L = q_2b f m (b L h) := id rfl
set_option maxHeartbeats 200000 in
theorem x_23 {f : Int → Int → Option Int} {m n : Int} {h : ol_H} : q_2b f m (some (n, h)) = q_2c (f m n) h := id rfl
set_option maxHeartbeats 200000 in
theorem x_24 {n : Int} {h : ol_H} : q_2c (some n) h = some (n, h) := id rfl
def q_n (x : Option (Int × ol_H)) : Option (Int × ol_H) := x.bind fun p => some (ol_w (- p.1), p.2)
set_option maxHeartbeats 200000 in
theorem x_n1 {a : ol_IE} {L : ol_L} {h : ol_H} : ei_neg a L h = q_n (a L h) := id rfl
set_option maxHeartbeats 200000 in
theorem x_n2 {n : Int} {h : ol_H} : q_n (some (n, h)) = some (ol_w (- n), h) := id rfl
def q_ji (x : Option (Int × ol_H)) : Option (Int64 × ol_H) := x.bind fun p => some ((Int32.ofInt p.1).toInt64, p.2)
set_option maxHeartbeats 200000 in
theorem x_ji1 {a : ol_IE} {L : ol_L} {h : ol_H} : ej_i a L h = q_ji (a L h) := id rfl
set_option maxHeartbeats 200000 in
theorem x_ji2 {n : Int} {h : ol_H} : q_ji (some (n, h)) = some ((Int32.ofInt n).toInt64, h) := id rfl
set_option maxHeartbeats 200000 in
theorem x_jc {n : Int64} {L : ol_L} {h : ol_H} : ej_c n L h = some (n, h) := id rfl
def q_j2 (f : Int64 → Int64 → Int64) (x : Option (Int64 × ol_H)) (b : ol_JE) (L : ol_L) : Option (Int64 × ol_H) := x.bind fun p => (b L p.2).bind fun q => some (f p.1 q.1, q.2)
def q_j2b (f : Int64 → Int64 → Int64) (m : Int64) (y : Option (Int64 × ol_H)) : Option (Int64 × ol_H) := y.bind fun q => some (f m q.1, q.2)
set_option maxHeartbeats 200000 in
theorem x_j21 {f : Int64 → Int64 → Int64} {a b : ol_JE} {L : ol_L} {h : ol_H} : ej_2 f a b L h = q_j2 f (a L h) b L := id rfl
set_option maxHeartbeats 200000 in
theorem x_j22 {f : Int64 → Int64 → Int64} {m : Int64} {b : ol_JE} {L : ol_L} {h : ol_H} : q_j2 f (some (m, h)) b L = q_j2b f m (b L h) := id rfl
set_option maxHeartbeats 200000 in
theorem x_j23 {f : Int64 → Int64 → Int64} {m n : Int64} {h : ol_H} : q_j2b f m (some (n, h)) = some (f m n, h) := id rfl
def q_js (f : Int64 → Int32 → Int64) (x : Option (Int64 × ol_H)) (b : ol_IE) (L : ol_L) : Option (Int64 × ol_H) := x.bind fun p => (b L p.2).bind fun q => some (f p.1 (Int32.ofInt q.1), q.2)
def q_jsb (f : Int64 → Int32 → Int64) (m : Int64) (y : Option (Int × ol_H)) : Option (Int64 × ol_H) := y.bind fun q => some (f m (Int32.ofInt q.1), q.2)
set_option maxHeartbeats 200000 in
theorem x_js1 {f : Int64 → Int32 → Int64} {a : ol_JE} {b : ol_IE} {L : ol_L} {h : ol_H} : ej_s f a b L h = q_js f (a L h) b L := id rfl
set_option maxHeartbeats 200000 in
theorem x_js2 {f : Int64 → Int32 → Int64} {m : Int64} {b : ol_IE} {L : ol_L} {h : ol_H} : q_js f (some (m, h)) b L = q_jsb f m (b L h) := id rfl
set_option maxHeartbeats 200000 in
theorem x_js3 {f : Int64 → Int32 → Int64} {m : Int64} {n : Int} {h : ol_H} : q_jsb f m (some (n, h)) = some (f m (Int32.ofInt n), h) := id rfl
def q_ij (x : Option (Int64 × ol_H)) : Option (Int × ol_H) := x.bind fun p => some (p.1.toInt32.toInt, p.2)
set_option maxHeartbeats 200000 in
theorem x_ij1 {a : ol_JE} {L : ol_L} {h : ol_H} : ei_j a L h = q_ij (a L h) := id rfl
set_option maxHeartbeats 200000 in
theorem x_ij2 {n : Int64} {h : ol_H} : q_ij (some (n, h)) = some (n.toInt32.toInt, h) := id rfl
def q_ib (x : Option (Int × ol_H)) : Option (Int × ol_H) := x.bind fun p => some (ol_nb p.1, p.2)
set_option maxHeartbeats 200000 in
theorem x_ib1 {a : ol_IE} {L : ol_L} {h : ol_H} : ei_b a L h = q_ib (a L h) := id rfl
set_option maxHeartbeats 200000 in
theorem x_ib2 {n : Int} {h : ol_H} : q_ib (some (n, h)) = some (ol_nb n, h) := id rfl
def q_c2 (f : Int → Int → Bool) (x : Option (Int × ol_H)) (b : ol_IE) (L : ol_L) : Option (Bool × ol_H) := x.bind fun p => (b L p.2).bind fun q => some (f p.1 q.1, q.2)
def q_c2b (f : Int → Int → Bool) (m : Int) (y : Option (Int × ol_H)) : Option (Bool × ol_H) := y.bind fun q => some (f m q.1, q.2)
set_option maxHeartbeats 200000 in
theorem x_c21 {f : Int → Int → Bool} {a b : ol_IE} {L : ol_L} {h : ol_H} : ec_2 f a b L h = q_c2 f (a L h) b L := id rfl
set_option maxHeartbeats 200000 in
theorem x_c22 {f : Int → Int → Bool} {m : Int} {b : ol_IE} {L : ol_L} {h : ol_H} : q_c2 f (some (m, h)) b L = q_c2b f m (b L h) := id rfl
set_option maxHeartbeats 200000 in
theorem x_c23 {f : Int → Int → Bool} {m n : Int} {h : ol_H} : q_c2b f m (some (n, h)) = some (f m n, h) := id rfl
def q_cz (f : Int → Int → Bool) (x : Option (Int × ol_H)) : Option (Bool × ol_H) := x.bind fun p => some (f p.1 0, p.2)
set_option maxHeartbeats 200000 in
theorem x_cz1 {f : Int → Int → Bool} {a : ol_IE} {L : ol_L} {h : ol_H} : ec_z f a L h = q_cz f (a L h) := id rfl
set_option maxHeartbeats 200000 in
theorem x_cz2 {f : Int → Int → Bool} {m : Int} {h : ol_H} : q_cz f (some (m, h)) = some (f m 0, h) := id rfl
def q_an (x : Option (Bool × ol_H)) (b : ol_CE) (L : ol_L) : Option (Bool × ol_H) := x.bind fun p => if p.1 then b L p.2 else some (false, p.2)
def q_anm (c : Bool) (h : ol_H) (y : Option (Bool × ol_H)) : Option (Bool × ol_H) := if c then y else some (false, h)
def q_or (x : Option (Bool × ol_H)) (b : ol_CE) (L : ol_L) : Option (Bool × ol_H) := x.bind fun p => if p.1 then some (true, p.2) else b L p.2
def q_orm (c : Bool) (h : ol_H) (y : Option (Bool × ol_H)) : Option (Bool × ol_H) := if c then some (true, h) else y
def q_nt (x : Option (Bool × ol_H)) : Option (Bool × ol_H) := x.bind fun p => some (!p.1, p.2)
set_option maxHeartbeats 200000 in
theorem x_an1 {a b : ol_CE} {L : ol_L} {h : ol_H} : ec_and a b L h = q_an (a L h) b L := id rfl
set_option maxHeartbeats 200000 in
theorem x_an2 {b : ol_CE} {L : ol_L} {h : ol_H} : q_an (some (true, h)) b L = b L h := id rfl
set_option maxHeartbeats 200000 in
theorem x_an3 {b : ol_CE} {L : ol_L} {h : ol_H} : q_an (some (false, h)) b L = some (false, h) := id rfl
set_option maxHeartbeats 200000 in
theorem x_or1 {a b : ol_CE} {L : ol_L} {h : ol_H} : ec_or a b L h = q_or (a L h) b L := id rfl
set_option maxHeartbeats 200000 in
theorem x_or2 {b : ol_CE} {L : ol_L} {h : ol_H} : q_or (some (true, h)) b L = some (true, h) := id rfl
set_option maxHeartbeats 200000 in
theorem x_or3 {b : ol_CE} {L : ol_L} {h : ol_H} : q_or (some (false, h)) b L = b L h := id rfl
set_option maxHeartbeats 200000 in
theorem x_nt1 {a : ol_CE} {L : ol_L} {h : ol_H} : ec_not a L h = q_nt (a L h) := id rfl
set_option maxHeartbeats 200000 in
theorem x_nt2 {c : Bool} {h : ol_H} : q_nt (some (c, h)) = some (!c, h) := id rfl
set_option maxHeartbeats 200000 in
theorem x_anm {c d : Bool} {h : ol_H} : q_anm c h (some (d, h)) = some (c && d, h) := by cases c <;> rfl
set_option maxHeartbeats 200000 in
theorem x_orm {c d : Bool} {h : ol_H} : q_orm c h (some (d, h)) = some (c || d, h) := by cases c <;> rfl
set_option maxHeartbeats 200000 in
theorem x_anm0 {p : Prop} [Decidable p] {b : ol_CE} {L : ol_L} {h : ol_H} : q_an (some (decide p, h)) b L = q_anm (decide p) h (b L h) := id rfl
set_option maxHeartbeats 200000 in
theorem x_orm0 {p : Prop} [Decidable p] {b : ol_CE} {L : ol_L} {h : ol_H} : q_or (some (decide p, h)) b L = q_orm (decide p) h (b L h) := id rfl
def q_if (x : Option (Bool × ol_H)) (a b : ol_IE) (L : ol_L) : Option (Int × ol_H) := x.bind fun p => if p.1 then a L p.2 else b L p.2
def q_ifm (c : Bool) (x y : Option (Int × ol_H)) : Option (Int × ol_H) := if c then x else y
set_option maxHeartbeats 200000 in
theorem x_if1 {c : ol_CE} {a b : ol_IE} {L : ol_L} {h : ol_H} : ei_if c a b L h = q_if (c L h) a b L := id rfl
set_option maxHeartbeats 200000 in
theorem x_if2 {a b : ol_IE} {L : ol_L} {h : ol_H} : q_if (some (true, h)) a b L = a L h := id rfl
set_option maxHeartbeats 200000 in
theorem x_if3 {a b : ol_IE} {L : ol_L} {h : ol_H} : q_if (some (false, h)) a b L = b L h := id rfl
set_option maxHeartbeats 200000 in
theorem x_ifm {p : Prop} [Decidable p] {m n : Int} {h : ol_H} : q_ifm (decide p) (some (m, h)) (some (n, h)) = some (if p then m else n, h) := by unfold q_ifm; by_cases hp : p <;> simp [hp]
set_option maxHeartbeats 200000 in
theorem x_ifm0 {p : Prop} [Decidable p] {a b : ol_IE} {L : ol_L} {h : ol_H} : q_if (some (decide p, h)) a b L = q_ifm (decide p) (a L h) (b L h) := id rfl
def q_cf (x : Option (Bool × ol_H)) (a b : ol_CE) (L : ol_L) : Option (Bool × ol_H) := x.bind fun p => if p.1 then a L p.2 else b L p.2
def q_cfm (c : Bool) (x y : Option (Bool × ol_H)) : Option (Bool × ol_H) := if c then x else y
set_option maxHeartbeats 200000 in
theorem x_cf1 {c : ol_CE} {a b : ol_CE} {L : ol_L} {h : ol_H} : ec_if c a b L h = q_cf (c L h) a b L := id rfl
set_option maxHeartbeats 200000 in
theorem x_cf2 {a b : ol_CE} {L : ol_L} {h : ol_H} : q_cf (some (true, h)) a b L = a L h := id rfl
set_option maxHeartbeats 200000 in
theorem x_cf3 {a b : ol_CE} {L : ol_L} {h : ol_H} : q_cf (some (false, h)) a b L = b L h := id rfl
set_option maxHeartbeats 200000 in
theorem x_cfm {p : Prop} [Decidable p] {m n : Bool} {h : ol_H} : q_cfm (decide p) (some (m, h)) (some (n, h)) = some (if p then m else n, h) := by unfold q_cfm; by_cases hp : p <;> simp [hp]
set_option maxHeartbeats 200000 in
theorem x_cfm0 {p : Prop} [Decidable p] {a b : ol_CE} {L : ol_L} {h : ol_H} : q_cf (some (decide p, h)) a b L = q_cfm (decide p) (a L h) (b L h) := id rfl
def q_gi (x : Option (Int × ol_H)) (r : ol_AE) (L : ol_L) : Option (List ol_V × ol_H) := x.bind fun p => (r L p.2).bind fun q => some (.inl p.1 :: q.1, q.2)
def q_gr (x : Option (Nat × ol_H)) (r : ol_AE) (L : ol_L) : Option (List ol_V × ol_H) := x.bind fun p => (r L p.2).bind fun q => some (.inr (.inl (some p.1)) :: q.1, q.2)
def q_gj (x : Option (Int64 × ol_H)) (r : ol_AE) (L : ol_L) : Option (List ol_V × ol_H) := x.bind fun p => (r L p.2).bind fun q => some (.inr (.inr p.1) :: q.1, q.2)
def q_gv (v : ol_V) (y : Option (List ol_V × ol_H)) : Option (List ol_V × ol_H) := y.bind fun q => some (v :: q.1, q.2)
set_option maxHeartbeats 200000 in
theorem x_a0 {L : ol_L} {h : ol_H} : ea_0 L h = some ([], h) := id rfl
set_option maxHeartbeats 200000 in
theorem x_pi1 {e : ol_IE} {r : ol_AE} {L : ol_L} {h : ol_H} : ea_i e r L h = q_gi (e L h) r L := id rfl
set_option maxHeartbeats 200000 in
theorem x_pi2 {n : Int} {r : ol_AE} {L : ol_L} {h : ol_H} : q_gi (some (n, h)) r L = q_gv (.inl n) (r L h) := id rfl
set_option maxHeartbeats 200000 in
theorem x_pr1 {e : ol_RE} {r : ol_AE} {L : ol_L} {h : ol_H} : ea_r e r L h = q_gr (e L h) r L := id rfl
set_option maxHeartbeats 200000 in
theorem x_pr2 {n : Nat} {r : ol_AE} {L : ol_L} {h : ol_H} : q_gr (some (n, h)) r L = q_gv (.inr (.inl (some n))) (r L h) := id rfl
set_option maxHeartbeats 200000 in
theorem x_pj1 {e : ol_JE} {r : ol_AE} {L : ol_L} {h : ol_H} : ea_j e r L h = q_gj (e L h) r L := id rfl
set_option maxHeartbeats 200000 in
theorem x_pj2 {n : Int64} {r : ol_AE} {L : ol_L} {h : ol_H} : q_gj (some (n, h)) r L = q_gv (.inr (.inr n)) (r L h) := id rfl
set_option maxHeartbeats 200000 in
theorem x_av {v : ol_V} {vs : List ol_V} {h : ol_H} : q_gv v (some (vs, h)) = some (v :: vs, h) := id rfl
def q_cl (x : Option (Option ol_V × ol_H)) (k : Nat × Nat) : Option (Option ol_V × ol_H) := x.bind fun p => if p.2.2 = (0, 0) then some (p.1, (p.2.1, k)) else none
def q_cvb (c : Bool) (f : ol_FE) (vs : List ol_V) (h : ol_H) : Option (Option ol_V × ol_H) := if c then ol_cal f vs h else none
def q_cv (ci : Nat) (f : ol_FE) (x : Option (List ol_V × ol_H)) : Option (Option ol_V × ol_H) := x.bind fun p => q_cvb (ol_rcv p.2 ci p.1) f p.1 p.2
def q_cs (f : ol_FE) (x : Option (List ol_V × ol_H)) : Option (Option ol_V × ol_H) := x.bind fun p => ol_cal f p.1 p.2
set_option maxHeartbeats 200000 in
theorem x_cv1 {ci : Nat} {f : ol_FE} {a : ol_AE} {L : ol_L} {h : ol_H} : ea_cv ci f a L h = q_cv ci f (a L h) := id rfl
set_option maxHeartbeats 200000 in
theorem x_cv2 {ci : Nat} {f : ol_FE} {vs : List ol_V} {h : ol_H} : q_cv ci f (some (vs, h)) = q_cvb (ol_rcv h ci vs) f vs h := id rfl
set_option maxHeartbeats 200000 in
theorem x_cv3 {f : ol_FE} {vs : List ol_V} {cs : List ol_C} {k : Nat × Nat} : q_cvb true f vs (cs, k) = q_cl (f vs (cs, 0, 0)) k := id rfl
set_option maxHeartbeats 200000 in
theorem x_cs1 {f : ol_FE} {a : ol_AE} {L : ol_L} {h : ol_H} : ea_cs f a L h = q_cs f (a L h) := id rfl
set_option maxHeartbeats 200000 in
theorem x_cs2 {f : ol_FE} {vs : List ol_V} {cs : List ol_C} {k : Nat × Nat} : q_cs f (some (vs, (cs, k))) = q_cl (f vs (cs, 0, 0)) k := id rfl
set_option maxHeartbeats 200000 in
theorem x_cl {r : Option ol_V} {cs : List ol_C} {k : Nat × Nat} : q_cl (some (r, (cs, 0, 0))) k = some (r, (cs, k)) := id rfl
def q_of (x : Option (Option ol_V × ol_H)) : Option (Int × ol_H) := x.bind fun q => (ol_int q.1).bind fun n => some (n, q.2)
set_option maxHeartbeats 200000 in
theorem x_of1 {c : ol_L → ol_H → Option (Option ol_V × ol_H)} {L : ol_L} {h : ol_H} : ei_of c L h = q_of (c L h) := id rfl
set_option maxHeartbeats 200000 in
theorem x_of2 {n : Int} {h : ol_H} : q_of (some (some (.inl n), h)) = some (n, h) := id rfl
def q_sof (x : Option (Option ol_V × ol_H)) (L : ol_L) : Option (Option (Option ol_V) × ol_L × ol_H) := x.bind fun q => some (none, L, q.2)
set_option maxHeartbeats 200000 in
theorem x_so1 {c : ol_L → ol_H → Option (Option ol_V × ol_H)} {L : ol_L} {h : ol_H} : es_of c L h = q_sof (c L h) L := id rfl
set_option maxHeartbeats 200000 in
theorem x_so2 {r : Option ol_V} {L : ol_L} {h : ol_H} : q_sof (some (r, h)) L = some (none, L, h) := id rfl
def q_fe (x : Option (Option (Option ol_V) × ol_L × ol_H)) : Option (Option ol_V × ol_H) := x.bind fun p => p.1.bind fun r => some (r, p.2.2)
def q_feb (c : Bool) (x : Option (Option (Option ol_V) × ol_L × ol_H)) : Option (Option ol_V × ol_H) := if c then q_fe x else none
set_option maxHeartbeats 200000 in
theorem x_fe1 {n : Nat} {s : ol_SE} {vs : List ol_V} {h : ol_H} : ol_fe n s vs h = q_feb (decide ((ol_exp vs).length ≤ n)) (s (ol_ent n vs) h) := by unfold ol_fe q_feb; simp only [decide_eq_true_eq]; rfl
set_option maxHeartbeats 200000 in
theorem x_fe2 {x : Option (Option (Option ol_V) × ol_L × ol_H)} : q_feb true x = q_fe x := id rfl
set_option maxHeartbeats 200000 in
theorem x_fe3 {r : Option ol_V} {L : ol_L} {h : ol_H} : q_fe (some (some r, L, h)) = some (r, h) := id rfl
def q_sq (x : Option (Option (Option ol_V) × ol_L × ol_H)) (b : ol_SE) : Option (Option (Option ol_V) × ol_L × ol_H) := x.bind fun p => match p.1 with
  | none => b p.2.1 p.2.2
  | some r => some (some r, p.2)
set_option maxHeartbeats 200000 in
theorem x_sq1 {a b : ol_SE} {L : ol_L} {h : ol_H} : es_seq a b L h = q_sq (a L h) b := id rfl
set_option maxHeartbeats 200000 in
theorem x_sq2 {b : ol_SE} {L : ol_L} {h : ol_H} : q_sq (some (none, L, h)) b = b L h := id rfl
set_option maxHeartbeats 200000 in
theorem x_sq3 {b : ol_SE} {r : Option ol_V} {L : ol_L} {h : ol_H} : q_sq (some (some r, L, h)) b = some (some r, L, h) := id rfl
set_option maxHeartbeats 200000 in
theorem x_sk {L : ol_L} {h : ol_H} : es_skip L h = some (none, L, h) := id rfl
def q_st (i : Nat) (x : Option (Int × ol_H)) (L : ol_L) : Option (Option (Option ol_V) × ol_L × ol_H) := x.bind fun p => some (none, ol_lset L i (.inl p.1), p.2)
set_option maxHeartbeats 200000 in
theorem x_st1 {i : Nat} {e : ol_IE} {L : ol_L} {h : ol_H} : es_set i e L h = q_st i (e L h) L := id rfl
set_option maxHeartbeats 200000 in
theorem x_st2 {i : Nat} {n : Int} {L : ol_L} {h : ol_H} : q_st i (some (n, h)) L = some (none, ol_lset L i (.inl n), h) := id rfl
def q_sr (i : Nat) (x : Option (Nat × ol_H)) (L : ol_L) : Option (Option (Option ol_V) × ol_L × ol_H) := x.bind fun p => some (none, ol_lset L i (.inr (.inl (some p.1))), p.2)
set_option maxHeartbeats 200000 in
theorem x_sr1 {i : Nat} {e : ol_RE} {L : ol_L} {h : ol_H} : es_setr i e L h = q_sr i (e L h) L := id rfl
set_option maxHeartbeats 200000 in
theorem x_sr2 {i n : Nat} {L : ol_L} {h : ol_H} : q_sr i (some (n, h)) L = some (none, ol_lset L i (.inr (.inl (some n))), h) := id rfl
def q_in (i : Nat) (n : Int) (v : Option ol_V) (L : ol_L) (h : ol_H) : Option (Option (Option ol_V) × ol_L × ol_H) := (ol_int v).bind fun v => some (none, ol_lset L i (.inl (ol_w (v + n))), h)
set_option maxHeartbeats 200000 in
theorem x_in1 {i : Nat} {n : Int} {L : ol_L} {h : ol_H} : es_inc i n L h = q_in i n L[i]? L h := id rfl
set_option maxHeartbeats 200000 in
theorem x_in2 {i : Nat} {n v : Int} {L : ol_L} {h : ol_H} : q_in i n (some (.inl v)) L h = some (none, ol_lset L i (.inl (ol_w (v + n))), h) := id rfl
def q_sf (x : Option (Bool × ol_H)) (a b : ol_SE) (L : ol_L) : Option (Option (Option ol_V) × ol_L × ol_H) := x.bind fun p => if p.1 then a L p.2 else b L p.2
set_option maxHeartbeats 200000 in
theorem x_sf1 {c : ol_CE} {a b : ol_SE} {L : ol_L} {h : ol_H} : es_if c a b L h = q_sf (c L h) a b L := id rfl
set_option maxHeartbeats 200000 in
theorem x_sf2 {a b : ol_SE} {L : ol_L} {h : ol_H} : q_sf (some (true, h)) a b L = a L h := id rfl
set_option maxHeartbeats 200000 in
theorem x_sf3 {a b : ol_SE} {L : ol_L} {h : ol_H} : q_sf (some (false, h)) a b L = b L h := id rfl
def q_rt (x : Option (Int × ol_H)) (L : ol_L) : Option (Option (Option ol_V) × ol_L × ol_H) := x.bind fun p => some (some (some (.inl p.1)), L, p.2)
set_option maxHeartbeats 200000 in
theorem x_rt1 {e : ol_IE} {L : ol_L} {h : ol_H} : es_ret e L h = q_rt (e L h) L := id rfl
set_option maxHeartbeats 200000 in
theorem x_rt2 {n : Int} {L : ol_L} {h : ol_H} : q_rt (some (n, h)) L = some (some (some (.inl n)), L, h) := id rfl
def q_rz (x : Option (Int × ol_H)) (L : ol_L) : Option (Option (Option ol_V) × ol_L × ol_H) := x.bind fun p => if p.1 = 0 ∨ p.1 = 1 then some (some (some (.inl p.1)), L, p.2) else none
set_option maxHeartbeats 200000 in
theorem x_rz1 {e : ol_IE} {L : ol_L} {h : ol_H} : es_retz e L h = q_rz (e L h) L := id rfl
set_option maxHeartbeats 200000 in
theorem x_rz2 {n : Int} {L : ol_L} {h : ol_H} (hn : n = 0 ∨ n = 1) : q_rz (some (n, h)) L = some (some (some (.inl n)), L, h) := if_pos hn
def q_rj (x : Option (Int64 × ol_H)) (L : ol_L) : Option (Option (Option ol_V) × ol_L × ol_H) := x.bind fun p => some (some (some (.inr (.inr p.1))), L, p.2)
set_option maxHeartbeats 200000 in
theorem x_rj1 {e : ol_JE} {L : ol_L} {h : ol_H} : es_retj e L h = q_rj (e L h) L := id rfl
set_option maxHeartbeats 200000 in
theorem x_rj2 {n : Int64} {L : ol_L} {h : ol_H} : q_rj (some (n, h)) L = some (some (some (.inr (.inr n))), L, h) := id rfl
set_option maxHeartbeats 200000 in
theorem x_rv {L : ol_L} {h : ol_H} : es_retv L h = some (some none, L, h) := id rfl
def q_ue (x : Option ol_H) (L : ol_L) : Option (Option (Option ol_V) × ol_L × ol_H) := x.bind fun h => some (none, L, h)
set_option maxHeartbeats 200000 in
theorem x_ue {L : ol_L} {h : ol_H} : q_ue (some h) L = some (none, L, h) := id rfl
def q_pf (ci j : Nat) (x : Option (Nat × ol_H)) (e : ol_IE) (L : ol_L) : Option (Option (Option ol_V) × ol_L × ol_H) := x.bind fun p => (e L p.2).bind fun q => q_ue (ol_put q.2 ci p.1 j (.inl q.1)) L
def q_pfb (ci j a : Nat) (y : Option (Int × ol_H)) (L : ol_L) : Option (Option (Option ol_V) × ol_L × ol_H) := y.bind fun q => q_ue (ol_put q.2 ci a j (.inl q.1)) L
set_option maxHeartbeats 200000 in
theorem x_pf1 {ci j : Nat} {r : ol_RE} {e : ol_IE} {L : ol_L} {h : ol_H} : es_pf ci j r e L h = q_pf ci j (r L h) e L := id rfl
set_option maxHeartbeats 200000 in
theorem x_pf2 {ci j a : Nat} {e : ol_IE} {L : ol_L} {h : ol_H} : q_pf ci j (some (a, h)) e L = q_pfb ci j a (e L h) L := id rfl
set_option maxHeartbeats 200000 in
theorem x_pf3 {ci j a : Nat} {n : Int} {L : ol_L} {h : ol_H} : q_pfb ci j a (some (n, h)) L = q_ue (ol_put h ci a j (.inl n)) L := id rfl
def q_pz (ci j : Nat) (x : Option (Nat × ol_H)) (e : ol_IE) (L : ol_L) : Option (Option (Option ol_V) × ol_L × ol_H) := x.bind fun p => (e L p.2).bind fun q => if q.1 = 0 ∨ q.1 = 1 then q_ue (ol_put q.2 ci p.1 j (.inl q.1)) L else none
def q_pzb (ci j a : Nat) (y : Option (Int × ol_H)) (L : ol_L) : Option (Option (Option ol_V) × ol_L × ol_H) := y.bind fun q => if q.1 = 0 ∨ q.1 = 1 then q_ue (ol_put q.2 ci a j (.inl q.1)) L else none
set_option maxHeartbeats 200000 in
theorem x_pz1 {ci j : Nat} {r : ol_RE} {e : ol_IE} {L : ol_L} {h : ol_H} : es_pz ci j r e L h = q_pz ci j (r L h) e L := id rfl
set_option maxHeartbeats 200000 in
theorem x_pz2 {ci j a : Nat} {e : ol_IE} {L : ol_L} {h : ol_H} : q_pz ci j (some (a, h)) e L = q_pzb ci j a (e L h) L := id rfl
set_option maxHeartbeats 200000 in
theorem x_pz3 {ci j a : Nat} {n : Int} {L : ol_L} {h : ol_H} (hn : n = 0 ∨ n = 1) : q_pzb ci j a (some (n, h)) L = q_ue (ol_put h ci a j (.inl n)) L := if_pos hn
def q_as (k : Nat) (x : Option (Nat × ol_H)) (i e : ol_IE) (L : ol_L) : Option (Option (Option ol_V) × ol_L × ol_H) := x.bind fun p => (i L p.2).bind fun q => (e L q.2).bind fun s => q_ue (ol_ast s.2 k p.1 q.1 (.inl s.1)) L
def q_asb (k a : Nat) (y : Option (Int × ol_H)) (e : ol_IE) (L : ol_L) : Option (Option (Option ol_V) × ol_L × ol_H) := y.bind fun q => (e L q.2).bind fun s => q_ue (ol_ast s.2 k a q.1 (.inl s.1)) L
def q_asc (k a : Nat) (m : Int) (y : Option (Int × ol_H)) (L : ol_L) : Option (Option (Option ol_V) × ol_L × ol_H) := y.bind fun s => q_ue (ol_ast s.2 k a m (.inl s.1)) L
set_option maxHeartbeats 200000 in
theorem x_as1 {k : Nat} {r : ol_RE} {i e : ol_IE} {L : ol_L} {h : ol_H} : es_as k r i e L h = q_as k (r L h) i e L := id rfl
set_option maxHeartbeats 200000 in
theorem x_as2 {k a : Nat} {i e : ol_IE} {L : ol_L} {h : ol_H} : q_as k (some (a, h)) i e L = q_asb k a (i L h) e L := id rfl
set_option maxHeartbeats 200000 in
theorem x_as3 {k a : Nat} {m : Int} {e : ol_IE} {L : ol_L} {h : ol_H} : q_asb k a (some (m, h)) e L = q_asc k a m (e L h) L := id rfl
set_option maxHeartbeats 200000 in
theorem x_as4 {k a : Nat} {m n : Int} {L : ol_L} {h : ol_H} : q_asc k a m (some (n, h)) L = q_ue (ol_ast h k a m (.inl n)) L := id rfl
def q_bs (k : Nat) (x : Option (Nat × ol_H)) (i e : ol_IE) (L : ol_L) : Option (Option (Option ol_V) × ol_L × ol_H) := x.bind fun p => (i L p.2).bind fun q => (e L q.2).bind fun s => q_ue (ol_ast s.2 k p.1 q.1 (.inl (ol_nb s.1))) L
def q_bsb (k a : Nat) (y : Option (Int × ol_H)) (e : ol_IE) (L : ol_L) : Option (Option (Option ol_V) × ol_L × ol_H) := y.bind fun q => (e L q.2).bind fun s => q_ue (ol_ast s.2 k a q.1 (.inl (ol_nb s.1))) L
def q_bsc (k a : Nat) (m : Int) (y : Option (Int × ol_H)) (L : ol_L) : Option (Option (Option ol_V) × ol_L × ol_H) := y.bind fun s => q_ue (ol_ast s.2 k a m (.inl (ol_nb s.1))) L
set_option maxHeartbeats 200000 in
theorem x_bs1 {k : Nat} {r : ol_RE} {i e : ol_IE} {L : ol_L} {h : ol_H} : es_bs k r i e L h = q_bs k (r L h) i e L := id rfl
set_option maxHeartbeats 200000 in
theorem x_bs2 {k a : Nat} {i e : ol_IE} {L : ol_L} {h : ol_H} : q_bs k (some (a, h)) i e L = q_bsb k a (i L h) e L := id rfl
set_option maxHeartbeats 200000 in
theorem x_bs3 {k a : Nat} {m : Int} {e : ol_IE} {L : ol_L} {h : ol_H} : q_bsb k a (some (m, h)) e L = q_bsc k a m (e L h) L := id rfl
set_option maxHeartbeats 200000 in
theorem x_bs4 {k a : Nat} {m n : Int} {L : ol_L} {h : ol_H} : q_bsc k a m (some (n, h)) L = q_ue (ol_ast h k a m (.inl (ol_nb n))) L := id rfl
def q_zs (k : Nat) (x : Option (Nat × ol_H)) (i e : ol_IE) (L : ol_L) : Option (Option (Option ol_V) × ol_L × ol_H) := x.bind fun p => (i L p.2).bind fun q => (e L q.2).bind fun s => if s.1 = 0 ∨ s.1 = 1 then q_ue (ol_ast s.2 k p.1 q.1 (.inl s.1)) L else none
def q_zsb (k a : Nat) (y : Option (Int × ol_H)) (e : ol_IE) (L : ol_L) : Option (Option (Option ol_V) × ol_L × ol_H) := y.bind fun q => (e L q.2).bind fun s => if s.1 = 0 ∨ s.1 = 1 then q_ue (ol_ast s.2 k a q.1 (.inl s.1)) L else none
def q_zsc (k a : Nat) (m : Int) (y : Option (Int × ol_H)) (L : ol_L) : Option (Option (Option ol_V) × ol_L × ol_H) := y.bind fun s => if s.1 = 0 ∨ s.1 = 1 then q_ue (ol_ast s.2 k a m (.inl s.1)) L else none
set_option maxHeartbeats 200000 in
theorem x_zs1 {k : Nat} {r : ol_RE} {i e : ol_IE} {L : ol_L} {h : ol_H} : es_zs k r i e L h = q_zs k (r L h) i e L := id rfl
set_option maxHeartbeats 200000 in
theorem x_zs2 {k a : Nat} {i e : ol_IE} {L : ol_L} {h : ol_H} : q_zs k (some (a, h)) i e L = q_zsb k a (i L h) e L := id rfl
set_option maxHeartbeats 200000 in
theorem x_zs3 {k a : Nat} {m : Int} {e : ol_IE} {L : ol_L} {h : ol_H} : q_zsb k a (some (m, h)) e L = q_zsc k a m (e L h) L := id rfl
set_option maxHeartbeats 200000 in
theorem x_zs4 {k a : Nat} {m n : Int} {L : ol_L} {h : ol_H} (hn : n = 0 ∨ n = 1) : q_zsc k a m (some (n, h)) L = q_ue (ol_ast h k a m (.inl n)) L := if_pos hn
def q_uf (ci j : Nat) (f : Int → Int → Option Int) (x : Option (Nat × ol_H)) (e : ol_IE) (L : ol_L) : Option (Option (Option ol_V) × ol_L × ol_H) := x.bind fun p => (ol_int (ol_fld p.2 ci p.1 j)).bind fun v => (e L p.2).bind fun q => (f v q.1).bind fun n => q_ue (ol_put q.2 ci p.1 j (.inl n)) L
def q_ufb (ci j : Nat) (f : Int → Int → Option Int) (a : Nat) (v : Option ol_V) (h : ol_H) (e : ol_IE) (L : ol_L) : Option (Option (Option ol_V) × ol_L × ol_H) := (ol_int v).bind fun v => (e L h).bind fun q => (f v q.1).bind fun n => q_ue (ol_put q.2 ci a j (.inl n)) L
def q_ufc (ci j : Nat) (f : Int → Int → Option Int) (a : Nat) (v : Int) (y : Option (Int × ol_H)) (L : ol_L) : Option (Option (Option ol_V) × ol_L × ol_H) := y.bind fun q => (f v q.1).bind fun n => q_ue (ol_put q.2 ci a j (.inl n)) L
def q_ufd (ci j a : Nat) (m : Option Int) (h : ol_H) (L : ol_L) : Option (Option (Option ol_V) × ol_L × ol_H) := m.bind fun n => q_ue (ol_put h ci a j (.inl n)) L
set_option maxHeartbeats 200000 in
theorem x_uf1 {ci j : Nat} {f : Int → Int → Option Int} {r : ol_RE} {e : ol_IE} {L : ol_L} {h : ol_H} : es_uf ci j r f e L h = q_uf ci j f (r L h) e L := id rfl
set_option maxHeartbeats 200000 in
theorem x_uf2 {ci j : Nat} {f : Int → Int → Option Int} {a : Nat} {e : ol_IE} {L : ol_L} {h : ol_H} : q_uf ci j f (some (a, h)) e L = q_ufb ci j f a (ol_fld h ci a j) h e L := id rfl
set_option maxHeartbeats 200000 in
theorem x_uf3 {ci j : Nat} {f : Int → Int → Option Int} {a : Nat} {v : Int} {e : ol_IE} {L : ol_L} {h : ol_H} : q_ufb ci j f a (some (.inl v)) h e L = q_ufc ci j f a v (e L h) L := id rfl
set_option maxHeartbeats 200000 in
theorem x_uf4 {ci j : Nat} {f : Int → Int → Option Int} {a : Nat} {v n : Int} {L : ol_L} {h : ol_H} : q_ufc ci j f a v (some (n, h)) L = q_ufd ci j a (f v n) h L := id rfl
set_option maxHeartbeats 200000 in
theorem x_uf5 {ci j a : Nat} {n : Int} {L : ol_L} {h : ol_H} : q_ufd ci j a (some n) h L = q_ue (ol_put h ci a j (.inl n)) L := id rfl
def q_ua (k : Nat) (f : Int → Int → Option Int) (x : Option (Nat × ol_H)) (i e : ol_IE) (L : ol_L) : Option (Option (Option ol_V) × ol_L × ol_H) := x.bind fun p => (i L p.2).bind fun q => (ol_int (ol_arr q.2 k p.1 q.1)).bind fun v => (e L q.2).bind fun s => (f v s.1).bind fun n => q_ue (ol_ast s.2 k p.1 q.1 (.inl n)) L
def q_uab (k : Nat) (f : Int → Int → Option Int) (a : Nat) (y : Option (Int × ol_H)) (e : ol_IE) (L : ol_L) : Option (Option (Option ol_V) × ol_L × ol_H) := y.bind fun q => (ol_int (ol_arr q.2 k a q.1)).bind fun v => (e L q.2).bind fun s => (f v s.1).bind fun n => q_ue (ol_ast s.2 k a q.1 (.inl n)) L
def q_uac (k : Nat) (f : Int → Int → Option Int) (a : Nat) (m : Int) (v : Option ol_V) (h : ol_H) (e : ol_IE) (L : ol_L) : Option (Option (Option ol_V) × ol_L × ol_H) := (ol_int v).bind fun v => (e L h).bind fun s => (f v s.1).bind fun n => q_ue (ol_ast s.2 k a m (.inl n)) L
def q_uad (k : Nat) (f : Int → Int → Option Int) (a : Nat) (m v : Int) (y : Option (Int × ol_H)) (L : ol_L) : Option (Option (Option ol_V) × ol_L × ol_H) := y.bind fun s => (f v s.1).bind fun n => q_ue (ol_ast s.2 k a m (.inl n)) L
def q_uae (k a : Nat) (m : Int) (w : Option Int) (h : ol_H) (L : ol_L) : Option (Option (Option ol_V) × ol_L × ol_H) := w.bind fun n => q_ue (ol_ast h k a m (.inl n)) L
set_option maxHeartbeats 200000 in
theorem x_ua1 {k : Nat} {f : Int → Int → Option Int} {r : ol_RE} {i e : ol_IE} {L : ol_L} {h : ol_H} : es_ua k r i f e L h = q_ua k f (r L h) i e L := id rfl
set_option maxHeartbeats 200000 in
theorem x_ua2 {k : Nat} {f : Int → Int → Option Int} {a : Nat} {i e : ol_IE} {L : ol_L} {h : ol_H} : q_ua k f (some (a, h)) i e L = q_uab k f a (i L h) e L := id rfl
set_option maxHeartbeats 200000 in
theorem x_ua3 {k : Nat} {f : Int → Int → Option Int} {a : Nat} {m : Int} {e : ol_IE} {L : ol_L} {h : ol_H} : q_uab k f a (some (m, h)) e L = q_uac k f a m (ol_arr h k a m) h e L := id rfl
set_option maxHeartbeats 200000 in
theorem x_ua4 {k : Nat} {f : Int → Int → Option Int} {a : Nat} {m v : Int} {e : ol_IE} {L : ol_L} {h : ol_H} : q_uac k f a m (some (.inl v)) h e L = q_uad k f a m v (e L h) L := id rfl
set_option maxHeartbeats 200000 in
theorem x_ua5 {k : Nat} {f : Int → Int → Option Int} {a : Nat} {m v n : Int} {L : ol_L} {h : ol_H} : q_uad k f a m v (some (n, h)) L = q_uae k a m (f v n) h L := id rfl
set_option maxHeartbeats 200000 in
theorem x_ua6 {k a : Nat} {m n : Int} {L : ol_L} {h : ol_H} : q_uae k a m (some n) h L = q_ue (ol_ast h k a m (.inl n)) L := id rfl
def q_cp (x : Option (Nat × ol_H)) (r : ol_RE) (n : Nat) (L : ol_L) : Option (Option (Option ol_V) × ol_L × ol_H) := x.bind fun p => (r L p.2).bind fun q => q_ue (ol_cp q.2 p.1 q.1 n) L
def q_cpb (a : Nat) (y : Option (Nat × ol_H)) (n : Nat) (L : ol_L) : Option (Option (Option ol_V) × ol_L × ol_H) := y.bind fun q => q_ue (ol_cp q.2 a q.1 n) L
set_option maxHeartbeats 200000 in
theorem x_cp1 {r1 r2 : ol_RE} {n : Nat} {L : ol_L} {h : ol_H} : es_cp r1 r2 n L h = q_cp (r1 L h) r2 n L := id rfl
set_option maxHeartbeats 200000 in
theorem x_cp2 {a : Nat} {r : ol_RE} {n : Nat} {L : ol_L} {h : ol_H} : q_cp (some (a, h)) r n L = q_cpb a (r L h) n L := id rfl
set_option maxHeartbeats 200000 in
theorem x_cp3 {a b n : Nat} {L : ol_L} {h : ol_H} : q_cpb a (some (b, h)) n L = q_ue (ol_cp h a b n) L := id rfl
def q_sw (x : Option (Int × ol_H)) (lo : Int) (bs : List ol_SE) (d : ol_SE) (L : ol_L) : Option (Option (Option ol_V) × ol_L × ol_H) := x.bind fun p => if lo ≤ p.1 then (bs.getD (p.1 - lo).toNat d) L p.2 else d L p.2
set_option maxHeartbeats 200000 in
theorem x_sw1 {e : ol_IE} {lo : Int} {bs : List ol_SE} {d : ol_SE} {L : ol_L} {h : ol_H} : es_sw e lo bs d L h = q_sw (e L h) lo bs d L := id rfl
set_option maxHeartbeats 200000 in
theorem x_sw2 {n lo : Int} {bs : List ol_SE} {d : ol_SE} {L : ol_L} {h : ol_H} (hn : lo ≤ n) : q_sw (some (n, h)) lo bs d L = (bs.getD (n - lo).toNat d) L h := if_pos hn
set_option maxHeartbeats 200000 in
theorem x_sw3 {n lo : Int} {bs : List ol_SE} {d : ol_SE} {L : ol_L} {h : ol_H} (hn : ¬ lo ≤ n) : q_sw (some (n, h)) lo bs d L = d L h := if_neg hn
set_option maxHeartbeats 200000 in
theorem b_t {p : Prop} [Decidable p] (h : p) : decide p = true := decide_eq_true h
set_option maxHeartbeats 200000 in
theorem b_f {p : Prop} [Decidable p] (h : ¬ p) : decide p = false := decide_eq_false h
set_option maxHeartbeats 200000 in
theorem b_a {p q : Prop} [Decidable p] [Decidable q] : (decide p && decide q) = decide (p ∧ q) := (Bool.decide_and p q).symm
set_option maxHeartbeats 200000 in
theorem b_o {p q : Prop} [Decidable p] [Decidable q] : (decide p || decide q) = decide (p ∨ q) := (Bool.decide_or p q).symm
set_option maxHeartbeats 200000 in
theorem b_n {p : Prop} [Decidable p] : (!decide p) = decide (¬ p) := (decide_not).symm
set_option maxHeartbeats 200000 in
theorem b_i {p q r : Prop} [Decidable p] [Decidable q] [Decidable r] : (if p then decide q else decide r) = decide (if p then q else r) := by split <;> rfl
set_option maxHeartbeats 200000 in
theorem pu_e {g : pg} {a j b i : Nat} {v : Int} : pu g a j v b i = if b = a ∧ i = j then v else g b i := id rfl
set_option maxHeartbeats 200000 in
theorem w_d {x : Int} (h : -2147483648 ≤ x ∧ x ≤ 2147483647) : ol_w x = x := ol_w_id h
