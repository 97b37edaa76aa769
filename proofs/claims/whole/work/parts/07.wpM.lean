def wp_M_isCell (a0 : Int32) (a1 : Int32) (u : zz_St) (post : Int32 → zz_St → Prop) : Prop :=
  (a0 < 0 → (post 0 u)) ∧ (¬ a0 < 0 → (((sg_i u 1) ≤ a0 → (post 0 u)) ∧ (¬ (sg_i u 1) ≤ a0 → ((a1 < 0 → (post 0 u)) ∧ (¬ a1 < 0 → (((sg_i u 2) ≤ a1 → (post 0 u)) ∧ (¬ (sg_i u 2) ≤ a1 → (post 1 u))))))))
def wp_M_isOpen (a0 : Int32) (a1 : Int32) (u : zz_St) (post : Int32 → zz_St → Prop) : Prop :=
  wp_M_isCell a0 a1 u (fun r2 s1 => ((r2 = 0 → (post 0 s1)) ∧ (¬ r2 = 0 → (vp_in (((sg_i s1 1) * a1) + a0) 36 ∧ (((sg_a s1 0 (((sg_i s1 1) * a1) + a0).toNatClampNeg) = 0 → (post 1 s1)) ∧ (¬ (sg_a s1 0 (((sg_i s1 1) * a1) + a0).toNatClampNeg) = 0 → (post 0 s1)))))))
def wp_M_findSlots_171 (post : zz_St → Prop) (kn7 : Int32 → zz_St → Prop) (kn22 : Int32 → Int32 → zz_St → Prop) (x1 : Int32) (x2 : Int32) (u : zz_St) : Prop :=
  kn22 x1 (x2 + 1) u
def wp_M_findSlots_150 (post : zz_St → Prop) (kn7 : Int32 → zz_St → Prop) (kn22 : Int32 → Int32 → zz_St → Prop) (x1 : Int32) (x2 : Int32) (y0 : Int32) (y1 : Int32) (u : zz_St) : Prop :=
  (vp_in y1 36 ∧ ((vp_in (sg_i u 5) 36 ∧ (∀ v15 : Int32, v15 = (sg_i u 5) + 1 → (wp_M_findSlots_171 post kn7 kn22 x1 x2 (ss_i (ss_a (ss_a u 8 (upd (sg_a u 8) y1.toNatClampNeg y0)) 9 (upd (sg_a u 9) (sg_i u 5).toNatClampNeg (-1))) 5 v15))))))
def wp_M_findSlots_58 (post : zz_St → Prop) (kn7 : Int32 → zz_St → Prop) (kn22 : Int32 → Int32 → zz_St → Prop) (kn58 : Int32 → Int32 → Int32 → Int32 → Int32 → Int32 → zz_St → Prop) (x1 : Int32) (x2 : Int32) (x3 : Int32) (x4 : Int32) (x5 : Int32) (x6 : Int32) (u : zz_St) : Prop :=
  wp_M_isOpen (x3 + (x6 * x5)) (x4 + (x6 * x1)) u (fun r8 s7 => ((r8 = 0 → ((x6 < 2 → (wp_M_findSlots_171 post kn7 kn22 x1 x2 s7)) ∧ (¬ x6 < 2 → (wp_M_isOpen (x3 - x5) (x4 - x1) s7 (fun r12 s11 => ((r12 = 0 → ((vp_in (sg_i s11 5) 36 ∧ ((vp_in (sg_i s11 5) 36 ∧ ((x1 = 0 → (wp_M_findSlots_150 post kn7 kn22 x1 x2 1 (sg_i s11 5) (ss_a (ss_a s11 6 (upd (sg_a s11 6) (sg_i s11 5).toNatClampNeg x2)) 7 (upd (sg_a s11 7) (sg_i s11 5).toNatClampNeg x6)))) ∧ (¬ x1 = 0 → (wp_M_findSlots_150 post kn7 kn22 x1 x2 (sg_i s11 1) (sg_i s11 5) (ss_a (ss_a s11 6 (upd (sg_a s11 6) (sg_i s11 5).toNatClampNeg x2)) 7 (upd (sg_a s11 7) (sg_i s11 5).toNatClampNeg x6)))))))))) ∧ (¬ r12 = 0 → (wp_M_findSlots_171 post kn7 kn22 x1 x2 s11)))))))) ∧ (¬ r8 = 0 → (kn58 x1 x2 x3 x4 x5 (x6 + 1) s7))))
def wp_M_findSlots_58_f (post : zz_St → Prop) (kn7 : Int32 → zz_St → Prop) (kn22 : Int32 → Int32 → zz_St → Prop) : Nat → Int32 → Int32 → Int32 → Int32 → Int32 → Int32 → zz_St → Prop
  | 0 => fun _ _ _ _ _ _ _ => False
  | n + 1 => wp_M_findSlots_58 post kn7 kn22 (wp_M_findSlots_58_f post kn7 kn22 n)
def wp_M_findSlots_22 (post : zz_St → Prop) (kn7 : Int32 → zz_St → Prop) (kn22 : Int32 → Int32 → zz_St → Prop) (x1 : Int32) (x2 : Int32) (u : zz_St) : Prop :=
  (((sg_i u 1) * (sg_i u 2)) ≤ x2 → (kn7 (x1 + 1) u)) ∧ (¬ ((sg_i u 1) * (sg_i u 2)) ≤ x2 → ((¬ (sg_i u 1) = 0) ∧ (∀ v4 : Int32, v4 = x2 - x2 / (sg_i u 1) * (sg_i u 1) → ((¬ (sg_i u 1) = 0) ∧ (∀ v5 : Int32, v5 = x2 / (sg_i u 1) → (∀ v6 : Int32, v6 = 1 - x1 → (∃ n : Nat, wp_M_findSlots_58_f post kn7 kn22 n x1 x2 v4 v5 v6 0 u)))))))
def wp_M_findSlots_22_f (post : zz_St → Prop) (kn7 : Int32 → zz_St → Prop) : Nat → Int32 → Int32 → zz_St → Prop
  | 0 => fun _ _ _ => False
  | n + 1 => wp_M_findSlots_22 post kn7 (wp_M_findSlots_22_f post kn7 n)
def wp_M_findSlots_7 (post : zz_St → Prop) (kn7 : Int32 → zz_St → Prop) (x1 : Int32) (u : zz_St) : Prop :=
  (2 ≤ x1 → (post u)) ∧ (¬ 2 ≤ x1 → (∀ v2 : Int32, v2 = sg_i u 5 → (∃ n : Nat, wp_M_findSlots_22_f post kn7 n x1 0 (ss_i u 6 v2))))
def wp_M_findSlots_7_f (post : zz_St → Prop) : Nat → Int32 → zz_St → Prop
  | 0 => fun _ _ => False
  | n + 1 => wp_M_findSlots_7 post (wp_M_findSlots_7_f post n)
def wp_M_findSlots (u : zz_St) (post : zz_St → Prop) : Prop :=
  ∃ n : Nat, wp_M_findSlots_7_f post  n 0 (ss_i u 5 0)
def wp_M_black_50 (post : Int32 → zz_St → Prop) (kn50 : Int32 → zz_St → Prop) (x4 : Int32) (u : zz_St) : Prop :=
  (36 ≤ x4 → (wp_M_findSlots (ss_i u 7 0) (fun s6 => (post 1 s6)))) ∧ (¬ 36 ≤ x4 → ((vp_in x4 36 ∧ (kn50 (x4 + 1) (ss_a u 1 (upd (sg_a u 1) x4.toNatClampNeg 0))))))
def wp_M_black_50_f (post : Int32 → zz_St → Prop) : Nat → Int32 → zz_St → Prop
  | 0 => fun _ _ => False
  | n + 1 => wp_M_black_50 post (wp_M_black_50_f post n)
def wp_M_black (a0 : Int32) (a1 : Int32) (a2 : Int32) (u : zz_St) (post : Int32 → zz_St → Prop) : Prop :=
  wp_M_isCell a0 a1 (ss_i u 0 0) (fun r2 s1 => ((r2 = 0 → (post 0 s1)) ∧ (¬ r2 = 0 → (vp_in (((sg_i s1 1) * a1) + a0) 36 ∧ (((sg_a s1 0 (((sg_i s1 1) * a1) + a0).toNatClampNeg) = a2 → (post 0 s1)) ∧ (¬ (sg_a s1 0 (((sg_i s1 1) * a1) + a0).toNatClampNeg) = a2 → ((vp_in (((sg_i s1 1) * a1) + a0) 36 ∧ ((a2 = 0 ∨ a2 = 1) ∧ ∃ n : Nat, wp_M_black_50_f post n 0 (ss_a s1 0 (upd (sg_a s1 0) (((sg_i s1 1) * a1) + a0).toNatClampNeg a2)))))))))))
def wp_M_isSlot (a0 : Int32) (u : zz_St) (post : Int32 → zz_St → Prop) : Prop :=
  (a0 < 0 → (post 0 u)) ∧ (¬ a0 < 0 → (((sg_i u 5) ≤ a0 → (post 0 u)) ∧ (¬ (sg_i u 5) ≤ a0 → (post 1 u))))
def wp_M_cellOf (a0 : Int32) (a1 : Int32) (u : zz_St) (post : Int32 → zz_St → Prop) : Prop :=
  vp_in a0 36 ∧ (vp_in a0 36 ∧ (post ((sg_a u 6 a0.toNatClampNeg) + (a1 * (sg_a u 8 a0.toNatClampNeg))) u))
def wp_M_isLetter (a0 : Int32) (u : zz_St) (post : Int32 → zz_St → Prop) : Prop :=
  (a0 < 97 → (post 0 u)) ∧ (¬ a0 < 97 → ((122 < a0 → (post 0 u)) ∧ (¬ 122 < a0 → (post 1 u))))
def wp_M_unit (a0 : Int32) (u : zz_St) (post : Int32 → zz_St → Prop) : Prop :=
  wp_M_isLetter a0 (ss_i u 0 0) (fun r2 s1 => ((r2 = 0 → (post 0 s1)) ∧ (¬ r2 = 0 → (((sg_i s1 3) = 6 → (post 0 s1)) ∧ (¬ (sg_i s1 3) = 6 → ((vp_in (sg_i s1 3) 6 ∧ (∀ v5 : Int32, v5 = (sg_i s1 3) + 1 → (post 1 (ss_i (ss_a s1 2 (upd (sg_a s1 2) (sg_i s1 3).toNatClampNeg a0)) 3 v5))))))))))
def wp_M_isRow_17 (post : Int32 → zz_St → Prop) (kn17 : Int32 → Int32 → zz_St → Prop) (x1 : Int32) (x2 : Int32) (u : zz_St) : Prop :=
  ((sg_i u 3) ≤ x2 → (post 1 u)) ∧ (¬ (sg_i u 3) ≤ x2 → (vp_in ((6 * x1) + x2) 480 ∧ (vp_in x2 6 ∧ (((sg_a u 4 ((6 * x1) + x2).toNatClampNeg) = (sg_a u 2 x2.toNatClampNeg) → (kn17 x1 (x2 + 1) u)) ∧ (¬ (sg_a u 4 ((6 * x1) + x2).toNatClampNeg) = (sg_a u 2 x2.toNatClampNeg) → (post 0 u))))))
def wp_M_isRow_17_f (post : Int32 → zz_St → Prop) : Nat → Int32 → Int32 → zz_St → Prop
  | 0 => fun _ _ _ => False
  | n + 1 => wp_M_isRow_17 post (wp_M_isRow_17_f post n)
def wp_M_isRow (a0 : Int32) (u : zz_St) (post : Int32 → zz_St → Prop) : Prop :=
  vp_in a0 80 ∧ (((sg_a u 3 a0.toNatClampNeg) = (sg_i u 3) → (∃ n : Nat, wp_M_isRow_17_f post  n a0 0 u)) ∧ (¬ (sg_a u 3 a0.toNatClampNeg) = (sg_i u 3) → (post 0 u)))
def wp_M_enter_58 (post : Int32 → zz_St → Prop) (kn58 : Int32 → Int32 → zz_St → Prop) (x1 : Int32) (x2 : Int32) (u : zz_St) : Prop :=
  ((sg_i u 3) ≤ x2 → (∀ v10 : Int32, v10 = sg_i u 3 → (vp_in (sg_i u 4) 80 ∧ ((vp_in (sg_i u 4) 80 ∧ (∀ v11 : Int32, v11 = (sg_i u 4) + 1 → (post (v11 - 1) (ss_i (ss_a (ss_a u 3 (upd (sg_a u 3) (sg_i u 4).toNatClampNeg v10)) 5 (upd (sg_a u 5) (sg_i u 4).toNatClampNeg x1)) 4 v11)))))))) ∧ (¬ (sg_i u 3) ≤ x2 → (vp_in x2 6 ∧ (∀ v12 : Int32, v12 = sg_a u 2 x2.toNatClampNeg → (vp_in ((6 * (sg_i u 4)) + x2) 480 ∧ (kn58 x1 (x2 + 1) (ss_a u 4 (upd (sg_a u 4) ((6 * (sg_i u 4)) + x2).toNatClampNeg v12)))))))
def wp_M_enter_58_f (post : Int32 → zz_St → Prop) : Nat → Int32 → Int32 → zz_St → Prop
  | 0 => fun _ _ _ => False
  | n + 1 => wp_M_enter_58 post (wp_M_enter_58_f post n)
def wp_M_enter_32 (post : Int32 → zz_St → Prop) (kn32 : Int32 → Int32 → zz_St → Prop) (x1 : Int32) (x2 : Int32) (u : zz_St) : Prop :=
  ((sg_i u 4) ≤ x2 → (∃ n : Nat, wp_M_enter_58_f post  n x1 0 u)) ∧ (¬ (sg_i u 4) ≤ x2 → (wp_M_isRow x2 u (fun r7 s6 => ((r7 = 0 → (kn32 x1 (x2 + 1) s6)) ∧ (¬ r7 = 0 → (post (-1) s6))))))
def wp_M_enter_32_f (post : Int32 → zz_St → Prop) : Nat → Int32 → Int32 → zz_St → Prop
  | 0 => fun _ _ _ => False
  | n + 1 => wp_M_enter_32 post (wp_M_enter_32_f post n)
def wp_M_enter (a0 : Int32) (u : zz_St) (post : Int32 → zz_St → Prop) : Prop :=
  ((sg_i u 3) < 2 → (post (-1) u)) ∧ (¬ (sg_i u 3) < 2 → ((a0 < 0 → (post (-1) u)) ∧ (¬ a0 < 0 → ((1000 < a0 → (post (-1) u)) ∧ (¬ 1000 < a0 → (((sg_i u 4) = 80 → (post (-1) u)) ∧ (¬ (sg_i u 4) = 80 → (∃ n : Nat, wp_M_enter_32_f post  n a0 0 u))))))))
def wp_M_word (a0 : Int32) (u : zz_St) (post : Int32 → zz_St → Prop) : Prop :=
  wp_M_enter a0 (ss_i u 0 0) (fun r2 s1 => (post r2 (ss_i s1 3 0)))
def wp_M_given_27 (post : Int32 → zz_St → Prop) (x1 : Int32) (x2 : Int32) (x3 : Int32) (u : zz_St) : Prop :=
  (vp_in (((sg_i u 1) * x2) + x1) 36 ∧ (post 1 (ss_a u 1 (upd (sg_a u 1) (((sg_i u 1) * x2) + x1).toNatClampNeg x3))))
def wp_M_given (a0 : Int32) (a1 : Int32) (a2 : Int32) (u : zz_St) (post : Int32 → zz_St → Prop) : Prop :=
  wp_M_isOpen a0 a1 (ss_i u 0 0) (fun r2 s1 => ((r2 = 0 → (post 0 s1)) ∧ (¬ r2 = 0 → ((a2 = 0 → (wp_M_given_27 post a0 a1 a2 s1)) ∧ (¬ a2 = 0 → (wp_M_isLetter a2 s1 (fun r6 s5 => ((r6 = 0 → (post 0 s5)) ∧ (¬ r6 = 0 → (wp_M_given_27 post a0 a1 a2 s5))))))))))
def wp_M_theme_47 (post : Int32 → zz_St → Prop) (x1 : Int32) (x2 : Int32) (u : zz_St) : Prop :=
  (vp_in x1 36 ∧ (post 1 (ss_a u 9 (upd (sg_a u 9) x1.toNatClampNeg x2))))
def wp_M_theme (a0 : Int32) (a1 : Int32) (u : zz_St) (post : Int32 → zz_St → Prop) : Prop :=
  wp_M_isSlot a0 (ss_i u 0 0) (fun r2 s1 => ((r2 = 0 → (post 0 s1)) ∧ (¬ r2 = 0 → ((a1 = (-1) → (wp_M_theme_47 post a0 a1 s1)) ∧ (¬ a1 = (-1) → ((a1 < 0 → (post 0 s1)) ∧ (¬ a1 < 0 → (((sg_i s1 4) ≤ a1 → (post 0 s1)) ∧ (¬ (sg_i s1 4) ≤ a1 → (vp_in a1 80 ∧ (vp_in a0 36 ∧ (((sg_a s1 3 a1.toNatClampNeg) = (sg_a s1 7 a0.toNatClampNeg) → (wp_M_theme_47 post a0 a1 s1)) ∧ (¬ (sg_a s1 3 a1.toNatClampNeg) = (sg_a s1 7 a0.toNatClampNeg) → (post 0 s1))))))))))))))
def wp_M_slots (u : zz_St) (post : Int32 → zz_St → Prop) : Prop :=
  post (sg_i u 5) (ss_i u 0 0)
def wp_M_spell_94 (post : zz_St → Prop) (kn28 : Int32 → zz_St → Prop) (x1 : Int32) (u : zz_St) : Prop :=
  kn28 (x1 + 1) u
def wp_M_spell_51 (post : zz_St → Prop) (kn28 : Int32 → zz_St → Prop) (kn51 : Int32 → Int32 → zz_St → Prop) (x1 : Int32) (x2 : Int32) (u : zz_St) : Prop :=
  vp_in x1 36 ∧ (((sg_a u 7 x1.toNatClampNeg) ≤ x2 → (wp_M_spell_94 post kn28 x1 u)) ∧ (¬ (sg_a u 7 x1.toNatClampNeg) ≤ x2 → (wp_M_cellOf x1 x2 u (fun r7 s6 => (vp_in x1 36 ∧ (vp_in ((6 * (sg_a s6 10 x1.toNatClampNeg)) + x2) 480 ∧ (∀ v8 : Int32, v8 = sg_a s6 4 ((6 * (sg_a s6 10 x1.toNatClampNeg)) + x2).toNatClampNeg → (vp_in r7 36 ∧ (kn51 x1 (x2 + 1) (ss_a s6 12 (upd (sg_a s6 12) r7.toNatClampNeg v8)))))))))))
def wp_M_spell_51_f (post : zz_St → Prop) (kn28 : Int32 → zz_St → Prop) : Nat → Int32 → Int32 → zz_St → Prop
  | 0 => fun _ _ _ => False
  | n + 1 => wp_M_spell_51 post kn28 (wp_M_spell_51_f post kn28 n)
def wp_M_spell_28 (post : zz_St → Prop) (kn28 : Int32 → zz_St → Prop) (x1 : Int32) (u : zz_St) : Prop :=
  ((sg_i u 5) ≤ x1 → (post u)) ∧ (¬ (sg_i u 5) ≤ x1 → (vp_in x1 36 ∧ (((sg_a u 10 x1.toNatClampNeg) = (-1) → (wp_M_spell_94 post kn28 x1 u)) ∧ (¬ (sg_a u 10 x1.toNatClampNeg) = (-1) → (∃ n : Nat, wp_M_spell_51_f post kn28 n x1 0 u)))))
def wp_M_spell_28_f (post : zz_St → Prop) : Nat → Int32 → zz_St → Prop
  | 0 => fun _ _ => False
  | n + 1 => wp_M_spell_28 post (wp_M_spell_28_f post n)
def wp_M_spell_2 (post : zz_St → Prop) (kn2 : Int32 → zz_St → Prop) (x1 : Int32) (u : zz_St) : Prop :=
  (36 ≤ x1 → (∃ n : Nat, wp_M_spell_28_f post  n 0 u)) ∧ (¬ 36 ≤ x1 → (vp_in x1 36 ∧ (∀ v2 : Int32, v2 = sg_a u 1 x1.toNatClampNeg → (vp_in x1 36 ∧ (kn2 (x1 + 1) (ss_a u 12 (upd (sg_a u 12) x1.toNatClampNeg v2)))))))
def wp_M_spell_2_f (post : zz_St → Prop) : Nat → Int32 → zz_St → Prop
  | 0 => fun _ _ => False
  | n + 1 => wp_M_spell_2 post (wp_M_spell_2_f post n)
def wp_M_spell (u : zz_St) (post : zz_St → Prop) : Prop :=
  ∃ n : Nat, wp_M_spell_2_f post  n 0 u
def wp_M_isUsed_2 (post : Int32 → zz_St → Prop) (kn2 : Int32 → Int32 → zz_St → Prop) (x1 : Int32) (x2 : Int32) (u : zz_St) : Prop :=
  ((sg_i u 5) ≤ x2 → (post 0 u)) ∧ (¬ (sg_i u 5) ≤ x2 → (vp_in x2 36 ∧ (((sg_a u 10 x2.toNatClampNeg) = x1 → (post 1 u)) ∧ (¬ (sg_a u 10 x2.toNatClampNeg) = x1 → (kn2 x1 (x2 + 1) u)))))
def wp_M_isUsed_2_f (post : Int32 → zz_St → Prop) : Nat → Int32 → Int32 → zz_St → Prop
  | 0 => fun _ _ _ => False
  | n + 1 => wp_M_isUsed_2 post (wp_M_isUsed_2_f post n)
def wp_M_isUsed (a0 : Int32) (u : zz_St) (post : Int32 → zz_St → Prop) : Prop :=
  ∃ n : Nat, wp_M_isUsed_2_f post  n a0 0 u
def wp_M_mayHave_93 (post : Int32 → zz_St → Prop) (kn47 : Int32 → Int32 → Int32 → zz_St → Prop) (x1 : Int32) (x2 : Int32) (x3 : Int32) (u : zz_St) : Prop :=
  kn47 x1 x2 (x3 + 1) u
def wp_M_mayHave_47 (post : Int32 → zz_St → Prop) (kn47 : Int32 → Int32 → Int32 → zz_St → Prop) (x1 : Int32) (x2 : Int32) (x3 : Int32) (u : zz_St) : Prop :=
  vp_in x1 36 ∧ (((sg_a u 7 x1.toNatClampNeg) ≤ x3 → (post 1 u)) ∧ (¬ (sg_a u 7 x1.toNatClampNeg) ≤ x3 → (wp_M_cellOf x1 x3 u (fun r9 s8 => (vp_in r9 36 ∧ (∀ v10 : Int32, v10 = sg_a s8 12 r9.toNatClampNeg → ((v10 = 0 → (wp_M_mayHave_93 post kn47 x1 x2 x3 s8)) ∧ (¬ v10 = 0 → (vp_in ((6 * x2) + x3) 480 ∧ ((v10 = (sg_a s8 4 ((6 * x2) + x3).toNatClampNeg) → (wp_M_mayHave_93 post kn47 x1 x2 x3 s8)) ∧ (¬ v10 = (sg_a s8 4 ((6 * x2) + x3).toNatClampNeg) → (post 0 s8))))))))))))
def wp_M_mayHave_47_f (post : Int32 → zz_St → Prop) : Nat → Int32 → Int32 → Int32 → zz_St → Prop
  | 0 => fun _ _ _ _ => False
  | n + 1 => wp_M_mayHave_47 post (wp_M_mayHave_47_f post n)
def wp_M_mayHave_35 (post : Int32 → zz_St → Prop) (x1 : Int32) (x2 : Int32) (u : zz_St) : Prop :=
  wp_M_isUsed x2 u (fun r5 s4 => ((r5 = 0 → (∃ n : Nat, wp_M_mayHave_47_f post n x1 x2 0 s4)) ∧ (¬ r5 = 0 → (post 0 s4))))
def wp_M_mayHave (a0 : Int32) (a1 : Int32) (u : zz_St) (post : Int32 → zz_St → Prop) : Prop :=
  vp_in a1 80 ∧ (vp_in a0 36 ∧ (((sg_a u 3 a1.toNatClampNeg) = (sg_a u 7 a0.toNatClampNeg) → (vp_in a0 36 ∧ (((sg_a u 9 a0.toNatClampNeg) = (-1) → (wp_M_mayHave_35 post  a0 a1 u)) ∧ (¬ (sg_a u 9 a0.toNatClampNeg) = (-1) → (vp_in a0 36 ∧ (((sg_a u 9 a0.toNatClampNeg) = a1 → (wp_M_mayHave_35 post  a0 a1 u)) ∧ (¬ (sg_a u 9 a0.toNatClampNeg) = a1 → (post 0 u)))))))) ∧ (¬ (sg_a u 3 a1.toNatClampNeg) = (sg_a u 7 a0.toNatClampNeg) → (post 0 u))))
def wp_M_countFor_27 (post : Int32 → zz_St → Prop) (kn4 : Int32 → Int32 → Int32 → zz_St → Prop) (x1 : Int32) (x3 : Int32) (y0 : Int32) (y1 : Int32) (u : zz_St) : Prop :=
  ∀ v5 : Int32, v5 = y1 + y0 → (kn4 x1 v5 (x3 + 1) u)
def wp_M_countFor_4 (post : Int32 → zz_St → Prop) (kn4 : Int32 → Int32 → Int32 → zz_St → Prop) (x1 : Int32) (x2 : Int32) (x3 : Int32) (u : zz_St) : Prop :=
  ((sg_i u 4) ≤ x3 → (post x2 u)) ∧ (¬ (sg_i u 4) ≤ x3 → (wp_M_mayHave x1 x3 u (fun r3 s2 => ((r3 = 0 → (wp_M_countFor_27 post kn4 x1 x3 0 x2 s2)) ∧ (¬ r3 = 0 → (wp_M_countFor_27 post kn4 x1 x3 1 x2 s2))))))
def wp_M_countFor_4_f (post : Int32 → zz_St → Prop) : Nat → Int32 → Int32 → Int32 → zz_St → Prop
  | 0 => fun _ _ _ _ => False
  | n + 1 => wp_M_countFor_4 post (wp_M_countFor_4_f post n)
def wp_M_countFor (a0 : Int32) (u : zz_St) (post : Int32 → zz_St → Prop) : Prop :=
  ∃ n : Nat, wp_M_countFor_4_f post  n a0 0 0 u
def wp_M_clearNow_2 (post : zz_St → Prop) (kn2 : Int32 → zz_St → Prop) (x1 : Int32) (u : zz_St) : Prop :=
  (36 ≤ x1 → (post u)) ∧ (¬ 36 ≤ x1 → ((vp_in x1 36 ∧ (kn2 (x1 + 1) (ss_a u 10 (upd (sg_a u 10) x1.toNatClampNeg (-1)))))))
def wp_M_clearNow_2_f (post : zz_St → Prop) : Nat → Int32 → zz_St → Prop
  | 0 => fun _ _ => False
  | n + 1 => wp_M_clearNow_2 post (wp_M_clearNow_2_f post n)
def wp_M_clearNow (u : zz_St) (post : zz_St → Prop) : Prop :=
  ∃ n : Nat, wp_M_clearNow_2_f post  n 0 u
def wp_M_slot (a0 : Int32) (a1 : Int32) (u : zz_St) (post : Int32 → zz_St → Prop) : Prop :=
  wp_M_isSlot a0 (ss_i u 0 0) (fun r2 s1 => ((r2 = 0 → (post (-1) s1)) ∧ (¬ r2 = 0 → ((a1 = 0 → (vp_in a0 36 ∧ (post (sg_a s1 6 a0.toNatClampNeg) s1))) ∧ (a1 = 1 → (vp_in a0 36 ∧ (post (sg_a s1 7 a0.toNatClampNeg) s1))) ∧ (a1 = 2 → (((sg_i s1 6) ≤ a0 → (post 1 s1)) ∧ (¬ (sg_i s1 6) ≤ a0 → (post 0 s1)))) ∧ (a1 = 3 → (vp_in a0 36 ∧ (post (sg_a s1 9 a0.toNatClampNeg) s1))) ∧ (a1 = 4 → (wp_M_clearNow s1 (fun s5 => (wp_M_spell s5 (fun s6 => (wp_M_countFor a0 s6 (fun r8 s7 => (post r8 s7)))))))) ∧ (a1 = 5 → (((sg_i s1 7) = 0 → (post (-1) s1)) ∧ (¬ (sg_i s1 7) = 0 → (vp_in a0 36 ∧ (post (sg_a s1 11 a0.toNatClampNeg) s1))))) ∧ ((a1.toInt < 0 ∨ 5 < a1.toInt) → (post (-1) s1))))))
def wp_M_isBefore (a0 : Int32) (a1 : Int32) (u : zz_St) (post : Int32 → zz_St → Prop) : Prop :=
  vp_in a0 80 ∧ (vp_in a1 80 ∧ (((sg_a u 5 a0.toNatClampNeg) = (sg_a u 5 a1.toNatClampNeg) → ((a1 ≤ a0 → (post 0 u)) ∧ (¬ a1 ≤ a0 → (post 1 u)))) ∧ (¬ (sg_a u 5 a0.toNatClampNeg) = (sg_a u 5 a1.toNatClampNeg) → (vp_in a0 80 ∧ (vp_in a1 80 ∧ (((sg_a u 5 a0.toNatClampNeg) ≤ (sg_a u 5 a1.toNatClampNeg) → (post 0 u)) ∧ (¬ (sg_a u 5 a0.toNatClampNeg) ≤ (sg_a u 5 a1.toNatClampNeg) → (post 1 u))))))))
def wp_M_open_58 (post : Int32 → zz_St → Prop) (kn12 : Int32 → Int32 → Int32 → Int32 → zz_St → Prop) (x1 : Int32) (x2 : Int32) (x3 : Int32) (x4 : Int32) (u : zz_St) : Prop :=
  kn12 x1 x2 x3 (x4 + 1) u
def wp_M_open_194 (post : Int32 → zz_St → Prop) (kn91 : Int32 → Int32 → Int32 → Int32 → zz_St → Prop) (x1 : Int32) (x2 : Int32) (x4 : Int32) (x5 : Int32) (u : zz_St) : Prop :=
  kn91 x1 x2 x4 (x5 + 1) u
def wp_M_open_177 (post : Int32 → zz_St → Prop) (kn91 : Int32 → Int32 → Int32 → Int32 → zz_St → Prop) (x1 : Int32) (x2 : Int32) (x4 : Int32) (x5 : Int32) (x6 : Int32) (u : zz_St) : Prop :=
  (vp_in ((80 * x1) + x6) 2960 ∧ (wp_M_open_194 post kn91 x1 x2 (x4 + 1) x5 (ss_a u 16 (upd (sg_a u 16) ((80 * x1) + x6).toNatClampNeg x5))))
def wp_M_open_117 (post : Int32 → zz_St → Prop) (kn91 : Int32 → Int32 → Int32 → Int32 → zz_St → Prop) (kn117 : Int32 → Int32 → Int32 → Int32 → Int32 → zz_St → Prop) (x1 : Int32) (x2 : Int32) (x4 : Int32) (x5 : Int32) (x6 : Int32) (u : zz_St) : Prop :=
  (x6 ≤ 0 → (wp_M_open_177 post kn91 x1 x2 x4 x5 x6 u)) ∧ (¬ x6 ≤ 0 → (vp_in (((80 * x1) + x6) - 1) 2960 ∧ (wp_M_isBefore x5 (sg_a u 16 (((80 * x1) + x6) - 1).toNatClampNeg) u (fun r14 s13 => ((r14 = 0 → (wp_M_open_177 post kn91 x1 x2 x4 x5 x6 s13)) ∧ (¬ r14 = 0 → (vp_in (((80 * x1) + x6) - 1) 2960 ∧ (∀ v16 : Int32, v16 = sg_a s13 16 (((80 * x1) + x6) - 1).toNatClampNeg → (vp_in ((80 * x1) + x6) 2960 ∧ (kn117 x1 x2 x4 x5 (x6 + (-1)) (ss_a s13 16 (upd (sg_a s13 16) ((80 * x1) + x6).toNatClampNeg v16))))))))))))
def wp_M_open_117_f (post : Int32 → zz_St → Prop) (kn91 : Int32 → Int32 → Int32 → Int32 → zz_St → Prop) : Nat → Int32 → Int32 → Int32 → Int32 → Int32 → zz_St → Prop
  | 0 => fun _ _ _ _ _ _ => False
  | n + 1 => wp_M_open_117 post kn91 (wp_M_open_117_f post kn91 n)
def wp_M_open_91 (post : Int32 → zz_St → Prop) (kn91 : Int32 → Int32 → Int32 → Int32 → zz_St → Prop) (x1 : Int32) (x2 : Int32) (x4 : Int32) (x5 : Int32) (u : zz_St) : Prop :=
  ((sg_i u 4) ≤ x5 → ((vp_in x1 37 ∧ (post 1 (ss_a u 14 (upd (sg_a u 14) x1.toNatClampNeg x4)))))) ∧ (¬ (sg_i u 4) ≤ x5 → (wp_M_mayHave x2 x5 u (fun r10 s9 => ((r10 = 0 → (wp_M_open_194 post kn91 x1 x2 x4 x5 s9)) ∧ (¬ r10 = 0 → (∃ n : Nat, wp_M_open_117_f post kn91 n x1 x2 x4 x5 x4 s9))))))
def wp_M_open_91_f (post : Int32 → zz_St → Prop) : Nat → Int32 → Int32 → Int32 → Int32 → zz_St → Prop
  | 0 => fun _ _ _ _ _ => False
  | n + 1 => wp_M_open_91 post (wp_M_open_91_f post n)
def wp_M_open_12 (post : Int32 → zz_St → Prop) (kn12 : Int32 → Int32 → Int32 → Int32 → zz_St → Prop) (x1 : Int32) (x2 : Int32) (x3 : Int32) (x4 : Int32) (u : zz_St) : Prop :=
  ((sg_i u 5) ≤ x4 → ((x2 = (-1) → (post 0 u)) ∧ (¬ x2 = (-1) → ((vp_in x1 37 ∧ ((vp_in x1 37 ∧ (∃ n : Nat, wp_M_open_91_f post  n x1 x2 0 0 (ss_a (ss_a u 13 (upd (sg_a u 13) x1.toNatClampNeg x2)) 15 (upd (sg_a u 15) x1.toNatClampNeg 0)))))))))) ∧ (¬ (sg_i u 5) ≤ x4 → (vp_in x4 36 ∧ (((sg_a u 10 x4.toNatClampNeg) = (-1) → (wp_M_countFor x4 u (fun r6 s5 => ((r6 < x3 → (wp_M_open_58 post kn12 x1 x4 r6 x4 s5)) ∧ (¬ r6 < x3 → (wp_M_open_58 post kn12 x1 x2 x3 x4 s5)))))) ∧ (¬ (sg_a u 10 x4.toNatClampNeg) = (-1) → (wp_M_open_58 post kn12 x1 x2 x3 x4 u)))))
def wp_M_open_12_f (post : Int32 → zz_St → Prop) : Nat → Int32 → Int32 → Int32 → Int32 → zz_St → Prop
  | 0 => fun _ _ _ _ _ => False
  | n + 1 => wp_M_open_12 post (wp_M_open_12_f post n)
def wp_M_open (a0 : Int32) (u : zz_St) (post : Int32 → zz_St → Prop) : Prop :=
  wp_M_spell u (fun s1 => (∃ n : Nat, wp_M_open_12_f post n a0 (-1) 81 0 s1))
def wp_M_sumNow_4 (post : Int32 → zz_St → Prop) (kn4 : Int32 → Int32 → zz_St → Prop) (x1 : Int32) (x2 : Int32) (u : zz_St) : Prop :=
  ((sg_i u 5) ≤ x2 → (post x1 u)) ∧ (¬ (sg_i u 5) ≤ x2 → (vp_in x2 36 ∧ (vp_in (sg_a u 10 x2.toNatClampNeg) 80 ∧ (∀ v2 : Int32, v2 = x1 + (sg_a u 5 (sg_a u 10 x2.toNatClampNeg).toNatClampNeg) → (kn4 v2 (x2 + 1) u)))))
def wp_M_sumNow_4_f (post : Int32 → zz_St → Prop) : Nat → Int32 → Int32 → zz_St → Prop
  | 0 => fun _ _ _ => False
  | n + 1 => wp_M_sumNow_4 post (wp_M_sumNow_4_f post n)
def wp_M_sumNow (u : zz_St) (post : Int32 → zz_St → Prop) : Prop :=
  ∃ n : Nat, wp_M_sumNow_4_f post  n 0 0 u
def wp_M_search_104 (post : Int32 → zz_St → Prop) (kn27 : Int32 → Int32 → Int32 → Int32 → Int32 → zz_St → Prop) (x1 : Int32) (x2 : Int32) (x3 : Int32) (x4 : Int32) (u : zz_St) : Prop :=
  (x2 = 0 → (post 0 u)) ∧ (¬ x2 = 0 → (kn27 x1 x2 x3 (x4 + (-1)) 0 u))
def wp_M_search_77 (post : Int32 → zz_St → Prop) (kn27 : Int32 → Int32 → Int32 → Int32 → Int32 → zz_St → Prop) (kn77 : Int32 → Int32 → Int32 → Int32 → Int32 → zz_St → Prop) (x1 : Int32) (x2 : Int32) (x3 : Int32) (x4 : Int32) (x6 : Int32) (u : zz_St) : Prop :=
  (36 ≤ x6 → (wp_M_search_104 post kn27 x1 x2 x3 x4 u)) ∧ (¬ 36 ≤ x6 → (vp_in x6 36 ∧ (∀ v15 : Int32, v15 = sg_a u 10 x6.toNatClampNeg → (vp_in x6 36 ∧ (kn77 x1 x2 x3 x4 (x6 + 1) (ss_a u 11 (upd (sg_a u 11) x6.toNatClampNeg v15)))))))
def wp_M_search_77_f (post : Int32 → zz_St → Prop) (kn27 : Int32 → Int32 → Int32 → Int32 → Int32 → zz_St → Prop) : Nat → Int32 → Int32 → Int32 → Int32 → Int32 → zz_St → Prop
  | 0 => fun _ _ _ _ _ _ => False
  | n + 1 => wp_M_search_77 post kn27 (wp_M_search_77_f post kn27 n)
def wp_M_search_119 (post : Int32 → zz_St → Prop) (kn27 : Int32 → Int32 → Int32 → Int32 → Int32 → zz_St → Prop) (x1 : Int32) (x2 : Int32) (x3 : Int32) (x4 : Int32) (u : zz_St) : Prop :=
  vp_in x4 37 ∧ ((vp_in (sg_a u 13 x4.toNatClampNeg) 36 ∧ (vp_in x4 37 ∧ (vp_in x4 37 ∧ (((sg_a u 15 x4.toNatClampNeg) = (sg_a u 14 x4.toNatClampNeg) → (kn27 x1 x2 x3 (x4 + (-1)) 0 (ss_a u 10 (upd (sg_a u 10) (sg_a u 13 x4.toNatClampNeg).toNatClampNeg (-1))))) ∧ (¬ (sg_a u 15 x4.toNatClampNeg) = (sg_a u 14 x4.toNatClampNeg) → (((sg_i u 8) = x1 → (post 2 (ss_a u 10 (upd (sg_a u 10) (sg_a u 13 x4.toNatClampNeg).toNatClampNeg (-1))))) ∧ (¬ (sg_i u 8) = x1 → (vp_in x4 37 ∧ (vp_in x4 37 ∧ (vp_in ((80 * x4) + (sg_a u 15 x4.toNatClampNeg)) 2960 ∧ (∀ v19 : Int32, v19 = sg_a u 16 ((80 * x4) + (sg_a u 15 x4.toNatClampNeg)).toNatClampNeg → (vp_in (sg_a u 13 x4.toNatClampNeg) 36 ∧ (vp_in x4 37 ∧ (∀ v20 : Int32, v20 = (sg_a u 15 x4.toNatClampNeg) + 1 → (vp_in x4 37 ∧ (∀ v21 : Int32, v21 = (sg_i u 8) + 1 → (kn27 x1 x2 x3 (x4 + 1) 1 (ss_i (ss_a (ss_a (ss_a u 10 (upd (sg_a u 10) (sg_a u 13 x4.toNatClampNeg).toNatClampNeg (-1))) 10 (upd (upd (sg_a u 10) (sg_a u 13 x4.toNatClampNeg).toNatClampNeg (-1)) (sg_a u 13 x4.toNatClampNeg).toNatClampNeg v19)) 15 (upd (sg_a u 15) x4.toNatClampNeg v20)) 8 v21)))))))))))))))))))
def wp_M_search_27 (post : Int32 → zz_St → Prop) (kn27 : Int32 → Int32 → Int32 → Int32 → Int32 → zz_St → Prop) (x1 : Int32) (x2 : Int32) (x3 : Int32) (x4 : Int32) (x5 : Int32) (u : zz_St) : Prop :=
  (x4 < 0 → (((sg_i u 7) = 0 → (post 1 u)) ∧ (¬ (sg_i u 7) = 0 → (post 0 u)))) ∧ (¬ x4 < 0 → ((x5 = 0 → (wp_M_search_119 post kn27 x1 x2 x3 x4 u)) ∧ (¬ x5 = 0 → (wp_M_open x4 u (fun r6 s5 => ((r6 = 0 → (∀ v8 : Int32, v8 = (sg_i s5 9) + 1 → (wp_M_sumNow (ss_i s5 9 v8) (fun r10 s9 => ((r10 ≤ x3 → (wp_M_search_104 post kn27 x1 x2 x3 x4 s9)) ∧ (¬ r10 ≤ x3 → (wp_M_sumNow s9 (fun r13 s12 => (∃ n : Nat, wp_M_search_77_f post kn27 n x1 x2 r13 x4 0 (ss_i s12 7 1)))))))))) ∧ (¬ r6 = 0 → (wp_M_search_119 post kn27 x1 x2 x3 x4 s5))))))))
def wp_M_search_27_f (post : Int32 → zz_St → Prop) : Nat → Int32 → Int32 → Int32 → Int32 → Int32 → zz_St → Prop
  | 0 => fun _ _ _ _ _ _ => False
  | n + 1 => wp_M_search_27 post (wp_M_search_27_f post n)
def wp_M_search (a0 : Int32) (a1 : Int32) (u : zz_St) (post : Int32 → zz_St → Prop) : Prop :=
  wp_M_clearNow u (fun s1 => (∃ n : Nat, wp_M_search_27_f post n a0 a1 (-1) 0 1 (ss_i (ss_i (ss_i s1 7 0) 8 0) 9 0)))
def wp_M_run_16 (post : Int32 → zz_St → Prop) (u : zz_St) : Prop :=
  post (-1) u
def wp_M_run (a0 : Int32) (u : zz_St) (post : Int32 → zz_St → Prop) : Prop :=
  (a0 < 0 → (wp_M_run_16 post  (ss_i u 0 0))) ∧ (¬ a0 < 0 → ((a0 ≤ 20000 → (wp_M_search a0 0 (ss_i u 0 0) (fun r4 s3 => (post r4 s3)))) ∧ (¬ a0 ≤ 20000 → (wp_M_run_16 post  (ss_i u 0 0)))))
def wp_M_best_16 (post : Int32 → zz_St → Prop) (u : zz_St) : Prop :=
  post (-1) u
def wp_M_best (a0 : Int32) (u : zz_St) (post : Int32 → zz_St → Prop) : Prop :=
  (a0 < 0 → (wp_M_best_16 post  (ss_i u 0 0))) ∧ (¬ a0 < 0 → ((a0 ≤ 20000 → (wp_M_search a0 1 (ss_i u 0 0) (fun r4 s3 => (post r4 s3)))) ∧ (¬ a0 ≤ 20000 → (wp_M_best_16 post  (ss_i u 0 0)))))
def wp_M_steps (u : zz_St) (post : Int32 → zz_St → Prop) : Prop :=
  post (sg_i u 8) (ss_i u 0 0)
def wp_M_many (u : zz_St) (post : Int32 → zz_St → Prop) : Prop :=
  post (sg_i u 9) (ss_i u 0 0)
def wp_M_score_18 (post : Int32 → zz_St → Prop) (kn18 : Int32 → Int32 → zz_St → Prop) (x1 : Int32) (x2 : Int32) (u : zz_St) : Prop :=
  ((sg_i u 5) ≤ x2 → (post x1 u)) ∧ (¬ (sg_i u 5) ≤ x2 → (vp_in x2 36 ∧ (vp_in (sg_a u 11 x2.toNatClampNeg) 80 ∧ (∀ v3 : Int32, v3 = x1 + (sg_a u 5 (sg_a u 11 x2.toNatClampNeg).toNatClampNeg) → (kn18 v3 (x2 + 1) u)))))
def wp_M_score_18_f (post : Int32 → zz_St → Prop) : Nat → Int32 → Int32 → zz_St → Prop
  | 0 => fun _ _ _ => False
  | n + 1 => wp_M_score_18 post (wp_M_score_18_f post n)
def wp_M_score (u : zz_St) (post : Int32 → zz_St → Prop) : Prop :=
  ((sg_i u 7) = 0 → (post (-1) (ss_i u 0 0))) ∧ (¬ (sg_i u 7) = 0 → (∃ n : Nat, wp_M_score_18_f post  n 0 0 (ss_i u 0 0)))
def wp_M_letter_36 (post : Int32 → zz_St → Prop) (kn18 : Int32 → Int32 → Int32 → zz_St → Prop) (kn36 : Int32 → Int32 → Int32 → Int32 → zz_St → Prop) (x1 : Int32) (x2 : Int32) (x3 : Int32) (x4 : Int32) (u : zz_St) : Prop :=
  vp_in x3 36 ∧ (((sg_a u 7 x3.toNatClampNeg) ≤ x4 → (kn18 x1 x2 (x3 + 1) u)) ∧ (¬ (sg_a u 7 x3.toNatClampNeg) ≤ x4 → (wp_M_cellOf x3 x4 u (fun r8 s7 => ((r8 = (((sg_i s7 1) * x2) + x1) → (vp_in x3 36 ∧ (vp_in ((6 * (sg_a s7 11 x3.toNatClampNeg)) + x4) 480 ∧ (post (sg_a s7 4 ((6 * (sg_a s7 11 x3.toNatClampNeg)) + x4).toNatClampNeg) s7)))) ∧ (¬ r8 = (((sg_i s7 1) * x2) + x1) → (kn36 x1 x2 x3 (x4 + 1) s7)))))))
def wp_M_letter_36_f (post : Int32 → zz_St → Prop) (kn18 : Int32 → Int32 → Int32 → zz_St → Prop) : Nat → Int32 → Int32 → Int32 → Int32 → zz_St → Prop
  | 0 => fun _ _ _ _ _ => False
  | n + 1 => wp_M_letter_36 post kn18 (wp_M_letter_36_f post kn18 n)
def wp_M_letter_18 (post : Int32 → zz_St → Prop) (kn18 : Int32 → Int32 → Int32 → zz_St → Prop) (x1 : Int32) (x2 : Int32) (x3 : Int32) (u : zz_St) : Prop :=
  ((sg_i u 5) ≤ x3 → (post 0 u)) ∧ (¬ (sg_i u 5) ≤ x3 → (((sg_i u 7) = 0 → (post 0 u)) ∧ (¬ (sg_i u 7) = 0 → (∃ n : Nat, wp_M_letter_36_f post kn18 n x1 x2 x3 0 u))))
def wp_M_letter_18_f (post : Int32 → zz_St → Prop) : Nat → Int32 → Int32 → Int32 → zz_St → Prop
  | 0 => fun _ _ _ _ => False
  | n + 1 => wp_M_letter_18 post (wp_M_letter_18_f post n)
def wp_M_letter (a0 : Int32) (a1 : Int32) (u : zz_St) (post : Int32 → zz_St → Prop) : Prop :=
  wp_M_isCell a0 a1 (ss_i u 0 0) (fun r2 s1 => ((r2 = 0 → (post (-1) s1)) ∧ (¬ r2 = 0 → (∃ n : Nat, wp_M_letter_18_f post n a0 a1 0 s1))))
def wp_M_check_105 (post : Int32 → zz_St → Prop) (kn16 : Int32 → zz_St → Prop) (kn55 : Int32 → Int32 → zz_St → Prop) (x1 : Int32) (x2 : Int32) (u : zz_St) : Prop :=
  kn55 x1 (x2 + 1) u
def wp_M_check_55 (post : Int32 → zz_St → Prop) (kn16 : Int32 → zz_St → Prop) (kn55 : Int32 → Int32 → zz_St → Prop) (x1 : Int32) (x2 : Int32) (u : zz_St) : Prop :=
  vp_in x1 36 ∧ (((sg_a u 7 x1.toNatClampNeg) ≤ x2 → (kn16 (x1 + 1) u)) ∧ (¬ (sg_a u 7 x1.toNatClampNeg) ≤ x2 → (wp_M_cellOf x1 x2 u (fun r7 s6 => (vp_in r7 36 ∧ (∀ v8 : Int32, v8 = sg_a s6 1 r7.toNatClampNeg → ((v8 = 0 → (wp_M_check_105 post kn16 kn55 x1 x2 s6)) ∧ (¬ v8 = 0 → (vp_in x1 36 ∧ (vp_in ((6 * (sg_a s6 11 x1.toNatClampNeg)) + x2) 480 ∧ ((v8 = (sg_a s6 4 ((6 * (sg_a s6 11 x1.toNatClampNeg)) + x2).toNatClampNeg) → (wp_M_check_105 post kn16 kn55 x1 x2 s6)) ∧ (¬ v8 = (sg_a s6 4 ((6 * (sg_a s6 11 x1.toNatClampNeg)) + x2).toNatClampNeg) → (post (1 + x1) s6)))))))))))))
def wp_M_check_55_f (post : Int32 → zz_St → Prop) (kn16 : Int32 → zz_St → Prop) : Nat → Int32 → Int32 → zz_St → Prop
  | 0 => fun _ _ _ => False
  | n + 1 => wp_M_check_55 post kn16 (wp_M_check_55_f post kn16 n)
def wp_M_check_53 (post : Int32 → zz_St → Prop) (kn16 : Int32 → zz_St → Prop) (x1 : Int32) (u : zz_St) : Prop :=
  ∃ n : Nat, wp_M_check_55_f post kn16 n x1 0 u
def wp_M_check_16 (post : Int32 → zz_St → Prop) (kn16 : Int32 → zz_St → Prop) (x1 : Int32) (u : zz_St) : Prop :=
  ((sg_i u 5) ≤ x1 → (post 0 u)) ∧ (¬ (sg_i u 5) ≤ x1 → (vp_in x1 36 ∧ (((sg_a u 9 x1.toNatClampNeg) = (-1) → (wp_M_check_53 post kn16 x1 u)) ∧ (¬ (sg_a u 9 x1.toNatClampNeg) = (-1) → (vp_in x1 36 ∧ (vp_in x1 36 ∧ (((sg_a u 9 x1.toNatClampNeg) = (sg_a u 11 x1.toNatClampNeg) → (wp_M_check_53 post kn16 x1 u)) ∧ (¬ (sg_a u 9 x1.toNatClampNeg) = (sg_a u 11 x1.toNatClampNeg) → (post (1 + x1) u)))))))))
def wp_M_check_16_f (post : Int32 → zz_St → Prop) : Nat → Int32 → zz_St → Prop
  | 0 => fun _ _ => False
  | n + 1 => wp_M_check_16 post (wp_M_check_16_f post n)
def wp_M_check (u : zz_St) (post : Int32 → zz_St → Prop) : Prop :=
  ((sg_i u 7) = 0 → (post (-1) (ss_i u 0 0))) ∧ (¬ (sg_i u 7) = 0 → (∃ n : Nat, wp_M_check_16_f post  n 0 (ss_i u 0 0)))
def wp_M_alike_106 (post : Int32 → zz_St → Prop) (kn34 : Int32 → Int32 → zz_St → Prop) (kn44 : Int32 → Int32 → Int32 → zz_St → Prop) (x1 : Int32) (x2 : Int32) (x3 : Int32) (x4 : Int32) (y0 : Int32) (u : zz_St) : Prop :=
  vp_in (((sg_i u 1) * x2) + x3) 36 ∧ (vp_in (((sg_i u 1) * y0) + x4) 36 ∧ (((sg_a u 0 (((sg_i u 1) * x2) + x3).toNatClampNeg) = (sg_a u 0 (((sg_i u 1) * y0) + x4).toNatClampNeg) → (kn44 x1 x2 (x3 + 1) u)) ∧ (¬ (sg_a u 0 (((sg_i u 1) * x2) + x3).toNatClampNeg) = (sg_a u 0 (((sg_i u 1) * y0) + x4).toNatClampNeg) → (post 0 u))))
def wp_M_alike_78 (post : Int32 → zz_St → Prop) (kn34 : Int32 → Int32 → zz_St → Prop) (kn44 : Int32 → Int32 → Int32 → zz_St → Prop) (x1 : Int32) (x2 : Int32) (x3 : Int32) (y0 : Int32) (u : zz_St) : Prop :=
  (x1 = 3 → (wp_M_alike_106 post kn34 kn44 x1 x2 x3 y0 x3 u)) ∧ (¬ x1 = 3 → ((x1 = 1 → (wp_M_alike_106 post kn34 kn44 x1 x2 x3 y0 x2 u)) ∧ (¬ x1 = 1 → (wp_M_alike_106 post kn34 kn44 x1 x2 x3 y0 (((sg_i u 2) - 1) - x2) u))))
def wp_M_alike_44 (post : Int32 → zz_St → Prop) (kn34 : Int32 → Int32 → zz_St → Prop) (kn44 : Int32 → Int32 → Int32 → zz_St → Prop) (x1 : Int32) (x2 : Int32) (x3 : Int32) (u : zz_St) : Prop :=
  ((sg_i u 1) ≤ x3 → (kn34 x1 (x2 + 1) u)) ∧ (¬ (sg_i u 1) ≤ x3 → ((x1 = 3 → (wp_M_alike_78 post kn34 kn44 x1 x2 x3 x2 u)) ∧ (¬ x1 = 3 → ((x1 = 2 → (wp_M_alike_78 post kn34 kn44 x1 x2 x3 x3 u)) ∧ (¬ x1 = 2 → (wp_M_alike_78 post kn34 kn44 x1 x2 x3 (((sg_i u 1) - 1) - x3) u))))))
def wp_M_alike_44_f (post : Int32 → zz_St → Prop) (kn34 : Int32 → Int32 → zz_St → Prop) : Nat → Int32 → Int32 → Int32 → zz_St → Prop
  | 0 => fun _ _ _ _ => False
  | n + 1 => wp_M_alike_44 post kn34 (wp_M_alike_44_f post kn34 n)
def wp_M_alike_34 (post : Int32 → zz_St → Prop) (kn34 : Int32 → Int32 → zz_St → Prop) (x1 : Int32) (x2 : Int32) (u : zz_St) : Prop :=
  ((sg_i u 2) ≤ x2 → (post 1 u)) ∧ (¬ (sg_i u 2) ≤ x2 → (∃ n : Nat, wp_M_alike_44_f post kn34 n x1 x2 0 u))
def wp_M_alike_34_f (post : Int32 → zz_St → Prop) : Nat → Int32 → Int32 → zz_St → Prop
  | 0 => fun _ _ _ => False
  | n + 1 => wp_M_alike_34 post (wp_M_alike_34_f post n)
def wp_M_alike_32 (post : Int32 → zz_St → Prop) (x1 : Int32) (u : zz_St) : Prop :=
  ∃ n : Nat, wp_M_alike_34_f post  n x1 0 u
def wp_M_alike (a0 : Int32) (u : zz_St) (post : Int32 → zz_St → Prop) : Prop :=
  (a0 < 0 → (post 0 (ss_i u 0 0))) ∧ (¬ a0 < 0 → ((3 < a0 → (post 0 (ss_i u 0 0))) ∧ (¬ 3 < a0 → ((a0 = 3 → (((sg_i u 1) = (sg_i u 2) → (wp_M_alike_32 post  a0 (ss_i u 0 0))) ∧ (¬ (sg_i u 1) = (sg_i u 2) → (post 0 (ss_i u 0 0))))) ∧ (¬ a0 = 3 → (wp_M_alike_32 post  a0 (ss_i u 0 0)))))))
def wp_M_isSeen (a0 : Int32) (a1 : Int32) (u : zz_St) (post : Int32 → zz_St → Prop) : Prop :=
  wp_M_isCell a0 a1 u (fun r2 s1 => ((r2 = 0 → (post 0 s1)) ∧ (¬ r2 = 0 → (vp_in (((sg_i s1 1) * a1) + a0) 36 ∧ (((sg_a s1 17 (((sg_i s1 1) * a1) + a0).toNatClampNeg) = 0 → (post 0 s1)) ∧ (¬ (sg_a s1 17 (((sg_i s1 1) * a1) + a0).toNatClampNeg) = 0 → (post 1 s1)))))))
def wp_M_parts_223 (post : Int32 → zz_St → Prop) (kn30 : Int32 → Int32 → zz_St → Prop) (kn76 : Int32 → Int32 → Int32 → zz_St → Prop) (kn85 : Int32 → Int32 → Int32 → Int32 → zz_St → Prop) (x1 : Int32) (x2 : Int32) (x3 : Int32) (x4 : Int32) (u : zz_St) : Prop :=
  kn85 x1 x2 x3 (x4 + 1) u
def wp_M_parts_222 (post : Int32 → zz_St → Prop) (kn30 : Int32 → Int32 → zz_St → Prop) (kn76 : Int32 → Int32 → Int32 → zz_St → Prop) (kn85 : Int32 → Int32 → Int32 → Int32 → zz_St → Prop) (x1 : Int32) (x2 : Int32) (x4 : Int32) (y0 : Int32) (u : zz_St) : Prop :=
  wp_M_parts_223 post kn30 kn76 kn85 x1 x2 y0 x4 u
def wp_M_parts_217 (post : Int32 → zz_St → Prop) (kn30 : Int32 → Int32 → zz_St → Prop) (kn76 : Int32 → Int32 → Int32 → zz_St → Prop) (kn85 : Int32 → Int32 → Int32 → Int32 → zz_St → Prop) (x1 : Int32) (x2 : Int32) (x4 : Int32) (u : zz_St) : Prop :=
  wp_M_parts_222 post kn30 kn76 kn85 x1 x2 x4 1 u
def wp_M_parts_197 (post : Int32 → zz_St → Prop) (kn30 : Int32 → Int32 → zz_St → Prop) (kn76 : Int32 → Int32 → Int32 → zz_St → Prop) (kn85 : Int32 → Int32 → Int32 → Int32 → zz_St → Prop) (x1 : Int32) (x2 : Int32) (x3 : Int32) (x4 : Int32) (y0 : Int32) (u : zz_St) : Prop :=
  (vp_in x4 36 ∧ ((y0 = 0 ∨ y0 = 1) ∧ (x3 = 0 → ((y0 = 0 → (wp_M_parts_222 post kn30 kn76 kn85 x1 x2 x4 0 (ss_a u 17 (upd (sg_a u 17) x4.toNatClampNeg y0)))) ∧ (¬ y0 = 0 → (wp_M_parts_217 post kn30 kn76 kn85 x1 x2 x4 (ss_a u 17 (upd (sg_a u 17) x4.toNatClampNeg y0)))))) ∧ (¬ x3 = 0 → (wp_M_parts_217 post kn30 kn76 kn85 x1 x2 x4 (ss_a u 17 (upd (sg_a u 17) x4.toNatClampNeg y0))))))
def wp_M_parts_192 (post : Int32 → zz_St → Prop) (kn30 : Int32 → Int32 → zz_St → Prop) (kn76 : Int32 → Int32 → Int32 → zz_St → Prop) (kn85 : Int32 → Int32 → Int32 → Int32 → zz_St → Prop) (x1 : Int32) (x2 : Int32) (x3 : Int32) (x4 : Int32) (u : zz_St) : Prop :=
  wp_M_parts_197 post kn30 kn76 kn85 x1 x2 x3 x4 1 u
def wp_M_parts_85 (post : Int32 → zz_St → Prop) (kn30 : Int32 → Int32 → zz_St → Prop) (kn76 : Int32 → Int32 → Int32 → zz_St → Prop) (kn85 : Int32 → Int32 → Int32 → Int32 → zz_St → Prop) (x1 : Int32) (x2 : Int32) (x3 : Int32) (x4 : Int32) (u : zz_St) : Prop :=
  (((sg_i u 1) * (sg_i u 2)) ≤ x4 → (kn76 x1 x2 x3 u)) ∧ (¬ ((sg_i u 1) * (sg_i u 2)) ≤ x4 → (vp_in x4 36 ∧ (((sg_a u 0 x4.toNatClampNeg) = 0 → (vp_in x4 36 ∧ (((sg_a u 17 x4.toNatClampNeg) = 0 → ((¬ (sg_i u 1) = 0) ∧ (∀ v9 : Int32, v9 = x4 - x4 / (sg_i u 1) * (sg_i u 1) → ((¬ (sg_i u 1) = 0) ∧ (∀ v10 : Int32, v10 = x4 / (sg_i u 1) → (wp_M_isSeen (v9 - 1) v10 u (fun r12 s11 => ((r12 = 0 → (wp_M_isSeen (v9 + 1) v10 s11 (fun r15 s14 => ((r15 = 0 → (wp_M_isSeen v9 (v10 - 1) s14 (fun r18 s17 => ((r18 = 0 → (wp_M_isSeen v9 (v10 + 1) s17 (fun r21 s20 => ((r21 = 0 → (wp_M_parts_197 post kn30 kn76 kn85 x1 x2 x3 x4 0 s20)) ∧ (¬ r21 = 0 → (wp_M_parts_192 post kn30 kn76 kn85 x1 x2 x3 x4 s20)))))) ∧ (¬ r18 = 0 → (wp_M_parts_192 post kn30 kn76 kn85 x1 x2 x3 x4 s17)))))) ∧ (¬ r15 = 0 → (wp_M_parts_192 post kn30 kn76 kn85 x1 x2 x3 x4 s14)))))) ∧ (¬ r12 = 0 → (wp_M_parts_192 post kn30 kn76 kn85 x1 x2 x3 x4 s11)))))))))) ∧ (¬ (sg_a u 17 x4.toNatClampNeg) = 0 → (wp_M_parts_223 post kn30 kn76 kn85 x1 x2 x3 x4 u))))) ∧ (¬ (sg_a u 0 x4.toNatClampNeg) = 0 → (wp_M_parts_223 post kn30 kn76 kn85 x1 x2 x3 x4 u)))))
def wp_M_parts_85_f (post : Int32 → zz_St → Prop) (kn30 : Int32 → Int32 → zz_St → Prop) (kn76 : Int32 → Int32 → Int32 → zz_St → Prop) : Nat → Int32 → Int32 → Int32 → Int32 → zz_St → Prop
  | 0 => fun _ _ _ _ _ => False
  | n + 1 => wp_M_parts_85 post kn30 kn76 (wp_M_parts_85_f post kn30 kn76 n)
def wp_M_parts_232 (post : Int32 → zz_St → Prop) (kn30 : Int32 → Int32 → zz_St → Prop) (x1 : Int32) (x2 : Int32) (u : zz_St) : Prop :=
  kn30 x1 (x2 + 1) u
def wp_M_parts_76 (post : Int32 → zz_St → Prop) (kn30 : Int32 → Int32 → zz_St → Prop) (kn76 : Int32 → Int32 → Int32 → zz_St → Prop) (x1 : Int32) (x2 : Int32) (x3 : Int32) (u : zz_St) : Prop :=
  (x3 = 0 → (wp_M_parts_232 post kn30 x1 x2 u)) ∧ (¬ x3 = 0 → (∃ n : Nat, wp_M_parts_85_f post kn30 kn76 n x1 x2 0 0 u))
def wp_M_parts_76_f (post : Int32 → zz_St → Prop) (kn30 : Int32 → Int32 → zz_St → Prop) : Nat → Int32 → Int32 → Int32 → zz_St → Prop
  | 0 => fun _ _ _ _ => False
  | n + 1 => wp_M_parts_76 post kn30 (wp_M_parts_76_f post kn30 n)
def wp_M_parts_30 (post : Int32 → zz_St → Prop) (kn30 : Int32 → Int32 → zz_St → Prop) (x1 : Int32) (x2 : Int32) (u : zz_St) : Prop :=
  (((sg_i u 1) * (sg_i u 2)) ≤ x2 → (post x1 u)) ∧ (¬ ((sg_i u 1) * (sg_i u 2)) ≤ x2 → (vp_in x2 36 ∧ (((sg_a u 0 x2.toNatClampNeg) = 0 → (vp_in x2 36 ∧ (((sg_a u 17 x2.toNatClampNeg) = 0 → ((vp_in x2 36 ∧ (∃ n : Nat, wp_M_parts_76_f post kn30 n (x1 + 1) x2 1 (ss_a u 17 (upd (sg_a u 17) x2.toNatClampNeg 1)))))) ∧ (¬ (sg_a u 17 x2.toNatClampNeg) = 0 → (wp_M_parts_232 post kn30 x1 x2 u))))) ∧ (¬ (sg_a u 0 x2.toNatClampNeg) = 0 → (wp_M_parts_232 post kn30 x1 x2 u)))))
def wp_M_parts_30_f (post : Int32 → zz_St → Prop) : Nat → Int32 → Int32 → zz_St → Prop
  | 0 => fun _ _ _ => False
  | n + 1 => wp_M_parts_30 post (wp_M_parts_30_f post n)
def wp_M_parts_7 (post : Int32 → zz_St → Prop) (kn7 : Int32 → zz_St → Prop) (x1 : Int32) (u : zz_St) : Prop :=
  (36 ≤ x1 → (∃ n : Nat, wp_M_parts_30_f post  n 0 0 u)) ∧ (¬ 36 ≤ x1 → ((vp_in x1 36 ∧ (kn7 (x1 + 1) (ss_a u 17 (upd (sg_a u 17) x1.toNatClampNeg 0))))))
def wp_M_parts_7_f (post : Int32 → zz_St → Prop) : Nat → Int32 → zz_St → Prop
  | 0 => fun _ _ => False
  | n + 1 => wp_M_parts_7 post (wp_M_parts_7_f post n)
def wp_M_parts (u : zz_St) (post : Int32 → zz_St → Prop) : Prop :=
  ∃ n : Nat, wp_M_parts_7_f post  n 0 (ss_i u 0 0)
