/-! Signs that can stand: leaf methods of the two fault finders. -/
/-- how many texts a sign has, if going on may be written (g) -/
def mP (x g : Int) : Int32 := if x = 43 ∨ x = 45 ∨ x = 42 ∨ x = 109 then 2 else if x = 63 then 3 else if x = 112 ∨ x = 113 ∨ x = 114 ∨ x = 64 ∨ (x = 107 ∧ g ≠ 0) then 1 else if (48 ≤ x ∧ x ≤ 55) ∨ x = 120 then 0 else -6
set_option maxHeartbeats 1000000 in
theorem k_M_partsD (l : Launch) (h : mH) (x g : Int32) (hx : 48 ≤ x.toInt ∧ x.toInt ≤ 55) : mD l Sh0 iX8_partsOf [.inl x, .inl g] h (some (mP x.toInt g.toInt)) h := by
  intro RT hR
  show mE l Sh0 none iX8_partsOf RT 0 [some (.inl x), some (.inl g), none, none] [] h
  refine e_iload_n (i := 0) dX8_partsOf_0 rfl rfl ?_
  refine e_bipush (v := 43) dX8_partsOf_1 (by decide) ?_
  refine b_icmp_eq (X := x.toInt) (Y := 43) (tgt := 24) rfl (by decide) dX8_partsOf_3 (by decide) ?_ ?_
  · intro e_3_t c_3_t
    refine e_iconst (v := 1) dX8_partsOf_24 (by decide) ?_
    refine e_goto (tgt := 29) dX8_partsOf_25 (by decide) ?_
    refine e_istore_n (i := 2) (ls2 := [some (.inl x), some (.inl g), some (.inl 1), none]) dX8_partsOf_29 rfl (Nat.le_of_ble_eq_true rfl) rfl ?_
    refine e_iload_n (i := 0) dX8_partsOf_30 rfl rfl ?_
    refine e_bipush (v := 112) dX8_partsOf_31 (by decide) ?_
    refine b_icmp_eq (X := x.toInt) (Y := 112) (tgt := 64) rfl (by decide) dX8_partsOf_33 (by decide) ?_ ?_
    · intro e_33_t c_33_t
      refine e_iconst (v := 1) dX8_partsOf_64 (by decide) ?_
      refine e_goto (tgt := 69) dX8_partsOf_65 (by decide) ?_
      refine e_istore_n (i := 3) (ls2 := [some (.inl x), some (.inl g), some (.inl 1), some (.inl 1)]) dX8_partsOf_69 rfl (Nat.le_of_ble_eq_true rfl) rfl ?_
      refine e_iload_n (i := 2) dX8_partsOf_70 rfl rfl ?_
      refine b_if_eq (X := 1) (tgt := 78) (by decide) dX8_partsOf_71 (by decide) ?_ ?_
      · intro e_71_t c_71_t
        exfalso; omega
      · intro e_71_f c_71_f
        refine e_iconst (v := 2) dX8_partsOf_74 (by decide) ?_
        refine e_goto (tgt := 119) dX8_partsOf_75 (by decide) ?_
        refine e_iret dX8_partsOf_119 (mret_i _) ?_
        unfold mP at hR; first | exact hR | ((repeat' (split at hR)) <;> first | exact hR | (exfalso; omega))
    · intro e_33_f c_33_f
      refine e_iload_n (i := 0) dX8_partsOf_36 rfl rfl ?_
      refine e_bipush (v := 113) dX8_partsOf_37 (by decide) ?_
      refine b_icmp_eq (X := x.toInt) (Y := 113) (tgt := 64) rfl (by decide) dX8_partsOf_39 (by decide) ?_ ?_
      · intro e_39_t c_39_t
        refine e_iconst (v := 1) dX8_partsOf_64 (by decide) ?_
        refine e_goto (tgt := 69) dX8_partsOf_65 (by decide) ?_
        refine e_istore_n (i := 3) (ls2 := [some (.inl x), some (.inl g), some (.inl 1), some (.inl 1)]) dX8_partsOf_69 rfl (Nat.le_of_ble_eq_true rfl) rfl ?_
        refine e_iload_n (i := 2) dX8_partsOf_70 rfl rfl ?_
        refine b_if_eq (X := 1) (tgt := 78) (by decide) dX8_partsOf_71 (by decide) ?_ ?_
        · intro e_71_t c_71_t
          exfalso; omega
        · intro e_71_f c_71_f
          refine e_iconst (v := 2) dX8_partsOf_74 (by decide) ?_
          refine e_goto (tgt := 119) dX8_partsOf_75 (by decide) ?_
          refine e_iret dX8_partsOf_119 (mret_i _) ?_
          unfold mP at hR; first | exact hR | ((repeat' (split at hR)) <;> first | exact hR | (exfalso; omega))
      · intro e_39_f c_39_f
        refine e_iload_n (i := 0) dX8_partsOf_42 rfl rfl ?_
        refine e_bipush (v := 114) dX8_partsOf_43 (by decide) ?_
        refine b_icmp_eq (X := x.toInt) (Y := 114) (tgt := 64) rfl (by decide) dX8_partsOf_45 (by decide) ?_ ?_
        · intro e_45_t c_45_t
          refine e_iconst (v := 1) dX8_partsOf_64 (by decide) ?_
          refine e_goto (tgt := 69) dX8_partsOf_65 (by decide) ?_
          refine e_istore_n (i := 3) (ls2 := [some (.inl x), some (.inl g), some (.inl 1), some (.inl 1)]) dX8_partsOf_69 rfl (Nat.le_of_ble_eq_true rfl) rfl ?_
          refine e_iload_n (i := 2) dX8_partsOf_70 rfl rfl ?_
          refine b_if_eq (X := 1) (tgt := 78) (by decide) dX8_partsOf_71 (by decide) ?_ ?_
          · intro e_71_t c_71_t
            exfalso; omega
          · intro e_71_f c_71_f
            refine e_iconst (v := 2) dX8_partsOf_74 (by decide) ?_
            refine e_goto (tgt := 119) dX8_partsOf_75 (by decide) ?_
            refine e_iret dX8_partsOf_119 (mret_i _) ?_
            unfold mP at hR; first | exact hR | ((repeat' (split at hR)) <;> first | exact hR | (exfalso; omega))
        · intro e_45_f c_45_f
          refine e_iload_n (i := 0) dX8_partsOf_48 rfl rfl ?_
          refine e_bipush (v := 64) dX8_partsOf_49 (by decide) ?_
          refine b_icmp_eq (X := x.toInt) (Y := 64) (tgt := 64) rfl (by decide) dX8_partsOf_51 (by decide) ?_ ?_
          · intro e_51_t c_51_t
            refine e_iconst (v := 1) dX8_partsOf_64 (by decide) ?_
            refine e_goto (tgt := 69) dX8_partsOf_65 (by decide) ?_
            refine e_istore_n (i := 3) (ls2 := [some (.inl x), some (.inl g), some (.inl 1), some (.inl 1)]) dX8_partsOf_69 rfl (Nat.le_of_ble_eq_true rfl) rfl ?_
            refine e_iload_n (i := 2) dX8_partsOf_70 rfl rfl ?_
            refine b_if_eq (X := 1) (tgt := 78) (by decide) dX8_partsOf_71 (by decide) ?_ ?_
            · intro e_71_t c_71_t
              exfalso; omega
            · intro e_71_f c_71_f
              refine e_iconst (v := 2) dX8_partsOf_74 (by decide) ?_
              refine e_goto (tgt := 119) dX8_partsOf_75 (by decide) ?_
              refine e_iret dX8_partsOf_119 (mret_i _) ?_
              unfold mP at hR; first | exact hR | ((repeat' (split at hR)) <;> first | exact hR | (exfalso; omega))
          · intro e_51_f c_51_f
            refine e_iload_n (i := 0) dX8_partsOf_54 rfl rfl ?_
            refine e_bipush (v := 107) dX8_partsOf_55 (by decide) ?_
            refine b_icmp_ne (X := x.toInt) (Y := 107) (tgt := 68) rfl (by decide) dX8_partsOf_57 (by decide) ?_ ?_
            · intro e_57_t c_57_t
              refine e_iconst (v := 0) dX8_partsOf_68 (by decide) ?_
              refine e_istore_n (i := 3) (ls2 := [some (.inl x), some (.inl g), some (.inl 1), some (.inl 0)]) dX8_partsOf_69 rfl (Nat.le_of_ble_eq_true rfl) rfl ?_
              refine e_iload_n (i := 2) dX8_partsOf_70 rfl rfl ?_
              refine b_if_eq (X := 1) (tgt := 78) (by decide) dX8_partsOf_71 (by decide) ?_ ?_
              · intro e_71_t c_71_t
                exfalso; omega
              · intro e_71_f c_71_f
                refine e_iconst (v := 2) dX8_partsOf_74 (by decide) ?_
                refine e_goto (tgt := 119) dX8_partsOf_75 (by decide) ?_
                refine e_iret dX8_partsOf_119 (mret_i _) ?_
                unfold mP at hR; first | exact hR | ((repeat' (split at hR)) <;> first | exact hR | (exfalso; omega))
            · intro e_57_f c_57_f
              refine e_iload_n (i := 1) dX8_partsOf_60 rfl rfl ?_
              refine b_if_eq (X := g.toInt) (tgt := 68) rfl dX8_partsOf_61 (by decide) ?_ ?_
              · intro e_61_t c_61_t
                refine e_iconst (v := 0) dX8_partsOf_68 (by decide) ?_
                refine e_istore_n (i := 3) (ls2 := [some (.inl x), some (.inl g), some (.inl 1), some (.inl 0)]) dX8_partsOf_69 rfl (Nat.le_of_ble_eq_true rfl) rfl ?_
                refine e_iload_n (i := 2) dX8_partsOf_70 rfl rfl ?_
                refine b_if_eq (X := 1) (tgt := 78) (by decide) dX8_partsOf_71 (by decide) ?_ ?_
                · intro e_71_t c_71_t
                  exfalso; omega
                · intro e_71_f c_71_f
                  refine e_iconst (v := 2) dX8_partsOf_74 (by decide) ?_
                  refine e_goto (tgt := 119) dX8_partsOf_75 (by decide) ?_
                  refine e_iret dX8_partsOf_119 (mret_i _) ?_
                  unfold mP at hR; first | exact hR | ((repeat' (split at hR)) <;> first | exact hR | (exfalso; omega))
              · intro e_61_f c_61_f
                refine e_iconst (v := 1) dX8_partsOf_64 (by decide) ?_
                refine e_goto (tgt := 69) dX8_partsOf_65 (by decide) ?_
                refine e_istore_n (i := 3) (ls2 := [some (.inl x), some (.inl g), some (.inl 1), some (.inl 1)]) dX8_partsOf_69 rfl (Nat.le_of_ble_eq_true rfl) rfl ?_
                refine e_iload_n (i := 2) dX8_partsOf_70 rfl rfl ?_
                refine b_if_eq (X := 1) (tgt := 78) (by decide) dX8_partsOf_71 (by decide) ?_ ?_
                · intro e_71_t c_71_t
                  exfalso; omega
                · intro e_71_f c_71_f
                  refine e_iconst (v := 2) dX8_partsOf_74 (by decide) ?_
                  refine e_goto (tgt := 119) dX8_partsOf_75 (by decide) ?_
                  refine e_iret dX8_partsOf_119 (mret_i _) ?_
                  unfold mP at hR; first | exact hR | ((repeat' (split at hR)) <;> first | exact hR | (exfalso; omega))
  · intro e_3_f c_3_f
    refine e_iload_n (i := 0) dX8_partsOf_6 rfl rfl ?_
    refine e_bipush (v := 45) dX8_partsOf_7 (by decide) ?_
    refine b_icmp_eq (X := x.toInt) (Y := 45) (tgt := 24) rfl (by decide) dX8_partsOf_9 (by decide) ?_ ?_
    · intro e_9_t c_9_t
      refine e_iconst (v := 1) dX8_partsOf_24 (by decide) ?_
      refine e_goto (tgt := 29) dX8_partsOf_25 (by decide) ?_
      refine e_istore_n (i := 2) (ls2 := [some (.inl x), some (.inl g), some (.inl 1), none]) dX8_partsOf_29 rfl (Nat.le_of_ble_eq_true rfl) rfl ?_
      refine e_iload_n (i := 0) dX8_partsOf_30 rfl rfl ?_
      refine e_bipush (v := 112) dX8_partsOf_31 (by decide) ?_
      refine b_icmp_eq (X := x.toInt) (Y := 112) (tgt := 64) rfl (by decide) dX8_partsOf_33 (by decide) ?_ ?_
      · intro e_33_t c_33_t
        refine e_iconst (v := 1) dX8_partsOf_64 (by decide) ?_
        refine e_goto (tgt := 69) dX8_partsOf_65 (by decide) ?_
        refine e_istore_n (i := 3) (ls2 := [some (.inl x), some (.inl g), some (.inl 1), some (.inl 1)]) dX8_partsOf_69 rfl (Nat.le_of_ble_eq_true rfl) rfl ?_
        refine e_iload_n (i := 2) dX8_partsOf_70 rfl rfl ?_
        refine b_if_eq (X := 1) (tgt := 78) (by decide) dX8_partsOf_71 (by decide) ?_ ?_
        · intro e_71_t c_71_t
          exfalso; omega
        · intro e_71_f c_71_f
          refine e_iconst (v := 2) dX8_partsOf_74 (by decide) ?_
          refine e_goto (tgt := 119) dX8_partsOf_75 (by decide) ?_
          refine e_iret dX8_partsOf_119 (mret_i _) ?_
          unfold mP at hR; first | exact hR | ((repeat' (split at hR)) <;> first | exact hR | (exfalso; omega))
      · intro e_33_f c_33_f
        refine e_iload_n (i := 0) dX8_partsOf_36 rfl rfl ?_
        refine e_bipush (v := 113) dX8_partsOf_37 (by decide) ?_
        refine b_icmp_eq (X := x.toInt) (Y := 113) (tgt := 64) rfl (by decide) dX8_partsOf_39 (by decide) ?_ ?_
        · intro e_39_t c_39_t
          refine e_iconst (v := 1) dX8_partsOf_64 (by decide) ?_
          refine e_goto (tgt := 69) dX8_partsOf_65 (by decide) ?_
          refine e_istore_n (i := 3) (ls2 := [some (.inl x), some (.inl g), some (.inl 1), some (.inl 1)]) dX8_partsOf_69 rfl (Nat.le_of_ble_eq_true rfl) rfl ?_
          refine e_iload_n (i := 2) dX8_partsOf_70 rfl rfl ?_
          refine b_if_eq (X := 1) (tgt := 78) (by decide) dX8_partsOf_71 (by decide) ?_ ?_
          · intro e_71_t c_71_t
            exfalso; omega
          · intro e_71_f c_71_f
            refine e_iconst (v := 2) dX8_partsOf_74 (by decide) ?_
            refine e_goto (tgt := 119) dX8_partsOf_75 (by decide) ?_
            refine e_iret dX8_partsOf_119 (mret_i _) ?_
            unfold mP at hR; first | exact hR | ((repeat' (split at hR)) <;> first | exact hR | (exfalso; omega))
        · intro e_39_f c_39_f
          refine e_iload_n (i := 0) dX8_partsOf_42 rfl rfl ?_
          refine e_bipush (v := 114) dX8_partsOf_43 (by decide) ?_
          refine b_icmp_eq (X := x.toInt) (Y := 114) (tgt := 64) rfl (by decide) dX8_partsOf_45 (by decide) ?_ ?_
          · intro e_45_t c_45_t
            refine e_iconst (v := 1) dX8_partsOf_64 (by decide) ?_
            refine e_goto (tgt := 69) dX8_partsOf_65 (by decide) ?_
            refine e_istore_n (i := 3) (ls2 := [some (.inl x), some (.inl g), some (.inl 1), some (.inl 1)]) dX8_partsOf_69 rfl (Nat.le_of_ble_eq_true rfl) rfl ?_
            refine e_iload_n (i := 2) dX8_partsOf_70 rfl rfl ?_
            refine b_if_eq (X := 1) (tgt := 78) (by decide) dX8_partsOf_71 (by decide) ?_ ?_
            · intro e_71_t c_71_t
              exfalso; omega
            · intro e_71_f c_71_f
              refine e_iconst (v := 2) dX8_partsOf_74 (by decide) ?_
              refine e_goto (tgt := 119) dX8_partsOf_75 (by decide) ?_
              refine e_iret dX8_partsOf_119 (mret_i _) ?_
              unfold mP at hR; first | exact hR | ((repeat' (split at hR)) <;> first | exact hR | (exfalso; omega))
          · intro e_45_f c_45_f
            refine e_iload_n (i := 0) dX8_partsOf_48 rfl rfl ?_
            refine e_bipush (v := 64) dX8_partsOf_49 (by decide) ?_
            refine b_icmp_eq (X := x.toInt) (Y := 64) (tgt := 64) rfl (by decide) dX8_partsOf_51 (by decide) ?_ ?_
            · intro e_51_t c_51_t
              refine e_iconst (v := 1) dX8_partsOf_64 (by decide) ?_
              refine e_goto (tgt := 69) dX8_partsOf_65 (by decide) ?_
              refine e_istore_n (i := 3) (ls2 := [some (.inl x), some (.inl g), some (.inl 1), some (.inl 1)]) dX8_partsOf_69 rfl (Nat.le_of_ble_eq_true rfl) rfl ?_
              refine e_iload_n (i := 2) dX8_partsOf_70 rfl rfl ?_
              refine b_if_eq (X := 1) (tgt := 78) (by decide) dX8_partsOf_71 (by decide) ?_ ?_
              · intro e_71_t c_71_t
                exfalso; omega
              · intro e_71_f c_71_f
                refine e_iconst (v := 2) dX8_partsOf_74 (by decide) ?_
                refine e_goto (tgt := 119) dX8_partsOf_75 (by decide) ?_
                refine e_iret dX8_partsOf_119 (mret_i _) ?_
                unfold mP at hR; first | exact hR | ((repeat' (split at hR)) <;> first | exact hR | (exfalso; omega))
            · intro e_51_f c_51_f
              refine e_iload_n (i := 0) dX8_partsOf_54 rfl rfl ?_
              refine e_bipush (v := 107) dX8_partsOf_55 (by decide) ?_
              refine b_icmp_ne (X := x.toInt) (Y := 107) (tgt := 68) rfl (by decide) dX8_partsOf_57 (by decide) ?_ ?_
              · intro e_57_t c_57_t
                refine e_iconst (v := 0) dX8_partsOf_68 (by decide) ?_
                refine e_istore_n (i := 3) (ls2 := [some (.inl x), some (.inl g), some (.inl 1), some (.inl 0)]) dX8_partsOf_69 rfl (Nat.le_of_ble_eq_true rfl) rfl ?_
                refine e_iload_n (i := 2) dX8_partsOf_70 rfl rfl ?_
                refine b_if_eq (X := 1) (tgt := 78) (by decide) dX8_partsOf_71 (by decide) ?_ ?_
                · intro e_71_t c_71_t
                  exfalso; omega
                · intro e_71_f c_71_f
                  refine e_iconst (v := 2) dX8_partsOf_74 (by decide) ?_
                  refine e_goto (tgt := 119) dX8_partsOf_75 (by decide) ?_
                  refine e_iret dX8_partsOf_119 (mret_i _) ?_
                  unfold mP at hR; first | exact hR | ((repeat' (split at hR)) <;> first | exact hR | (exfalso; omega))
              · intro e_57_f c_57_f
                refine e_iload_n (i := 1) dX8_partsOf_60 rfl rfl ?_
                refine b_if_eq (X := g.toInt) (tgt := 68) rfl dX8_partsOf_61 (by decide) ?_ ?_
                · intro e_61_t c_61_t
                  refine e_iconst (v := 0) dX8_partsOf_68 (by decide) ?_
                  refine e_istore_n (i := 3) (ls2 := [some (.inl x), some (.inl g), some (.inl 1), some (.inl 0)]) dX8_partsOf_69 rfl (Nat.le_of_ble_eq_true rfl) rfl ?_
                  refine e_iload_n (i := 2) dX8_partsOf_70 rfl rfl ?_
                  refine b_if_eq (X := 1) (tgt := 78) (by decide) dX8_partsOf_71 (by decide) ?_ ?_
                  · intro e_71_t c_71_t
                    exfalso; omega
                  · intro e_71_f c_71_f
                    refine e_iconst (v := 2) dX8_partsOf_74 (by decide) ?_
                    refine e_goto (tgt := 119) dX8_partsOf_75 (by decide) ?_
                    refine e_iret dX8_partsOf_119 (mret_i _) ?_
                    unfold mP at hR; first | exact hR | ((repeat' (split at hR)) <;> first | exact hR | (exfalso; omega))
                · intro e_61_f c_61_f
                  refine e_iconst (v := 1) dX8_partsOf_64 (by decide) ?_
                  refine e_goto (tgt := 69) dX8_partsOf_65 (by decide) ?_
                  refine e_istore_n (i := 3) (ls2 := [some (.inl x), some (.inl g), some (.inl 1), some (.inl 1)]) dX8_partsOf_69 rfl (Nat.le_of_ble_eq_true rfl) rfl ?_
                  refine e_iload_n (i := 2) dX8_partsOf_70 rfl rfl ?_
                  refine b_if_eq (X := 1) (tgt := 78) (by decide) dX8_partsOf_71 (by decide) ?_ ?_
                  · intro e_71_t c_71_t
                    exfalso; omega
                  · intro e_71_f c_71_f
                    refine e_iconst (v := 2) dX8_partsOf_74 (by decide) ?_
                    refine e_goto (tgt := 119) dX8_partsOf_75 (by decide) ?_
                    refine e_iret dX8_partsOf_119 (mret_i _) ?_
                    unfold mP at hR; first | exact hR | ((repeat' (split at hR)) <;> first | exact hR | (exfalso; omega))
    · intro e_9_f c_9_f
      refine e_iload_n (i := 0) dX8_partsOf_12 rfl rfl ?_
      refine e_bipush (v := 42) dX8_partsOf_13 (by decide) ?_
      refine b_icmp_eq (X := x.toInt) (Y := 42) (tgt := 24) rfl (by decide) dX8_partsOf_15 (by decide) ?_ ?_
      · intro e_15_t c_15_t
        refine e_iconst (v := 1) dX8_partsOf_24 (by decide) ?_
        refine e_goto (tgt := 29) dX8_partsOf_25 (by decide) ?_
        refine e_istore_n (i := 2) (ls2 := [some (.inl x), some (.inl g), some (.inl 1), none]) dX8_partsOf_29 rfl (Nat.le_of_ble_eq_true rfl) rfl ?_
        refine e_iload_n (i := 0) dX8_partsOf_30 rfl rfl ?_
        refine e_bipush (v := 112) dX8_partsOf_31 (by decide) ?_
        refine b_icmp_eq (X := x.toInt) (Y := 112) (tgt := 64) rfl (by decide) dX8_partsOf_33 (by decide) ?_ ?_
        · intro e_33_t c_33_t
          refine e_iconst (v := 1) dX8_partsOf_64 (by decide) ?_
          refine e_goto (tgt := 69) dX8_partsOf_65 (by decide) ?_
          refine e_istore_n (i := 3) (ls2 := [some (.inl x), some (.inl g), some (.inl 1), some (.inl 1)]) dX8_partsOf_69 rfl (Nat.le_of_ble_eq_true rfl) rfl ?_
          refine e_iload_n (i := 2) dX8_partsOf_70 rfl rfl ?_
          refine b_if_eq (X := 1) (tgt := 78) (by decide) dX8_partsOf_71 (by decide) ?_ ?_
          · intro e_71_t c_71_t
            exfalso; omega
          · intro e_71_f c_71_f
            refine e_iconst (v := 2) dX8_partsOf_74 (by decide) ?_
            refine e_goto (tgt := 119) dX8_partsOf_75 (by decide) ?_
            refine e_iret dX8_partsOf_119 (mret_i _) ?_
            unfold mP at hR; first | exact hR | ((repeat' (split at hR)) <;> first | exact hR | (exfalso; omega))
        · intro e_33_f c_33_f
          refine e_iload_n (i := 0) dX8_partsOf_36 rfl rfl ?_
          refine e_bipush (v := 113) dX8_partsOf_37 (by decide) ?_
          refine b_icmp_eq (X := x.toInt) (Y := 113) (tgt := 64) rfl (by decide) dX8_partsOf_39 (by decide) ?_ ?_
          · intro e_39_t c_39_t
            refine e_iconst (v := 1) dX8_partsOf_64 (by decide) ?_
            refine e_goto (tgt := 69) dX8_partsOf_65 (by decide) ?_
            refine e_istore_n (i := 3) (ls2 := [some (.inl x), some (.inl g), some (.inl 1), some (.inl 1)]) dX8_partsOf_69 rfl (Nat.le_of_ble_eq_true rfl) rfl ?_
            refine e_iload_n (i := 2) dX8_partsOf_70 rfl rfl ?_
            refine b_if_eq (X := 1) (tgt := 78) (by decide) dX8_partsOf_71 (by decide) ?_ ?_
            · intro e_71_t c_71_t
              exfalso; omega
            · intro e_71_f c_71_f
              refine e_iconst (v := 2) dX8_partsOf_74 (by decide) ?_
              refine e_goto (tgt := 119) dX8_partsOf_75 (by decide) ?_
              refine e_iret dX8_partsOf_119 (mret_i _) ?_
              unfold mP at hR; first | exact hR | ((repeat' (split at hR)) <;> first | exact hR | (exfalso; omega))
          · intro e_39_f c_39_f
            refine e_iload_n (i := 0) dX8_partsOf_42 rfl rfl ?_
            refine e_bipush (v := 114) dX8_partsOf_43 (by decide) ?_
            refine b_icmp_eq (X := x.toInt) (Y := 114) (tgt := 64) rfl (by decide) dX8_partsOf_45 (by decide) ?_ ?_
            · intro e_45_t c_45_t
              refine e_iconst (v := 1) dX8_partsOf_64 (by decide) ?_
              refine e_goto (tgt := 69) dX8_partsOf_65 (by decide) ?_
              refine e_istore_n (i := 3) (ls2 := [some (.inl x), some (.inl g), some (.inl 1), some (.inl 1)]) dX8_partsOf_69 rfl (Nat.le_of_ble_eq_true rfl) rfl ?_
              refine e_iload_n (i := 2) dX8_partsOf_70 rfl rfl ?_
              refine b_if_eq (X := 1) (tgt := 78) (by decide) dX8_partsOf_71 (by decide) ?_ ?_
              · intro e_71_t c_71_t
                exfalso; omega
              · intro e_71_f c_71_f
                refine e_iconst (v := 2) dX8_partsOf_74 (by decide) ?_
                refine e_goto (tgt := 119) dX8_partsOf_75 (by decide) ?_
                refine e_iret dX8_partsOf_119 (mret_i _) ?_
                unfold mP at hR; first | exact hR | ((repeat' (split at hR)) <;> first | exact hR | (exfalso; omega))
            · intro e_45_f c_45_f
              refine e_iload_n (i := 0) dX8_partsOf_48 rfl rfl ?_
              refine e_bipush (v := 64) dX8_partsOf_49 (by decide) ?_
              refine b_icmp_eq (X := x.toInt) (Y := 64) (tgt := 64) rfl (by decide) dX8_partsOf_51 (by decide) ?_ ?_
              · intro e_51_t c_51_t
                refine e_iconst (v := 1) dX8_partsOf_64 (by decide) ?_
                refine e_goto (tgt := 69) dX8_partsOf_65 (by decide) ?_
                refine e_istore_n (i := 3) (ls2 := [some (.inl x), some (.inl g), some (.inl 1), some (.inl 1)]) dX8_partsOf_69 rfl (Nat.le_of_ble_eq_true rfl) rfl ?_
                refine e_iload_n (i := 2) dX8_partsOf_70 rfl rfl ?_
                refine b_if_eq (X := 1) (tgt := 78) (by decide) dX8_partsOf_71 (by decide) ?_ ?_
                · intro e_71_t c_71_t
                  exfalso; omega
                · intro e_71_f c_71_f
                  refine e_iconst (v := 2) dX8_partsOf_74 (by decide) ?_
                  refine e_goto (tgt := 119) dX8_partsOf_75 (by decide) ?_
                  refine e_iret dX8_partsOf_119 (mret_i _) ?_
                  unfold mP at hR; first | exact hR | ((repeat' (split at hR)) <;> first | exact hR | (exfalso; omega))
              · intro e_51_f c_51_f
                refine e_iload_n (i := 0) dX8_partsOf_54 rfl rfl ?_
                refine e_bipush (v := 107) dX8_partsOf_55 (by decide) ?_
                refine b_icmp_ne (X := x.toInt) (Y := 107) (tgt := 68) rfl (by decide) dX8_partsOf_57 (by decide) ?_ ?_
                · intro e_57_t c_57_t
                  refine e_iconst (v := 0) dX8_partsOf_68 (by decide) ?_
                  refine e_istore_n (i := 3) (ls2 := [some (.inl x), some (.inl g), some (.inl 1), some (.inl 0)]) dX8_partsOf_69 rfl (Nat.le_of_ble_eq_true rfl) rfl ?_
                  refine e_iload_n (i := 2) dX8_partsOf_70 rfl rfl ?_
                  refine b_if_eq (X := 1) (tgt := 78) (by decide) dX8_partsOf_71 (by decide) ?_ ?_
                  · intro e_71_t c_71_t
                    exfalso; omega
                  · intro e_71_f c_71_f
                    refine e_iconst (v := 2) dX8_partsOf_74 (by decide) ?_
                    refine e_goto (tgt := 119) dX8_partsOf_75 (by decide) ?_
                    refine e_iret dX8_partsOf_119 (mret_i _) ?_
                    unfold mP at hR; first | exact hR | ((repeat' (split at hR)) <;> first | exact hR | (exfalso; omega))
                · intro e_57_f c_57_f
                  refine e_iload_n (i := 1) dX8_partsOf_60 rfl rfl ?_
                  refine b_if_eq (X := g.toInt) (tgt := 68) rfl dX8_partsOf_61 (by decide) ?_ ?_
                  · intro e_61_t c_61_t
                    refine e_iconst (v := 0) dX8_partsOf_68 (by decide) ?_
                    refine e_istore_n (i := 3) (ls2 := [some (.inl x), some (.inl g), some (.inl 1), some (.inl 0)]) dX8_partsOf_69 rfl (Nat.le_of_ble_eq_true rfl) rfl ?_
                    refine e_iload_n (i := 2) dX8_partsOf_70 rfl rfl ?_
                    refine b_if_eq (X := 1) (tgt := 78) (by decide) dX8_partsOf_71 (by decide) ?_ ?_
                    · intro e_71_t c_71_t
                      exfalso; omega
                    · intro e_71_f c_71_f
                      refine e_iconst (v := 2) dX8_partsOf_74 (by decide) ?_
                      refine e_goto (tgt := 119) dX8_partsOf_75 (by decide) ?_
                      refine e_iret dX8_partsOf_119 (mret_i _) ?_
                      unfold mP at hR; first | exact hR | ((repeat' (split at hR)) <;> first | exact hR | (exfalso; omega))
                  · intro e_61_f c_61_f
                    refine e_iconst (v := 1) dX8_partsOf_64 (by decide) ?_
                    refine e_goto (tgt := 69) dX8_partsOf_65 (by decide) ?_
                    refine e_istore_n (i := 3) (ls2 := [some (.inl x), some (.inl g), some (.inl 1), some (.inl 1)]) dX8_partsOf_69 rfl (Nat.le_of_ble_eq_true rfl) rfl ?_
                    refine e_iload_n (i := 2) dX8_partsOf_70 rfl rfl ?_
                    refine b_if_eq (X := 1) (tgt := 78) (by decide) dX8_partsOf_71 (by decide) ?_ ?_
                    · intro e_71_t c_71_t
                      exfalso; omega
                    · intro e_71_f c_71_f
                      refine e_iconst (v := 2) dX8_partsOf_74 (by decide) ?_
                      refine e_goto (tgt := 119) dX8_partsOf_75 (by decide) ?_
                      refine e_iret dX8_partsOf_119 (mret_i _) ?_
                      unfold mP at hR; first | exact hR | ((repeat' (split at hR)) <;> first | exact hR | (exfalso; omega))
      · intro e_15_f c_15_f
        refine e_iload_n (i := 0) dX8_partsOf_18 rfl rfl ?_
        refine e_bipush (v := 109) dX8_partsOf_19 (by decide) ?_
        refine b_icmp_ne (X := x.toInt) (Y := 109) (tgt := 28) rfl (by decide) dX8_partsOf_21 (by decide) ?_ ?_
        · intro e_21_t c_21_t
          refine e_iconst (v := 0) dX8_partsOf_28 (by decide) ?_
          refine e_istore_n (i := 2) (ls2 := [some (.inl x), some (.inl g), some (.inl 0), none]) dX8_partsOf_29 rfl (Nat.le_of_ble_eq_true rfl) rfl ?_
          refine e_iload_n (i := 0) dX8_partsOf_30 rfl rfl ?_
          refine e_bipush (v := 112) dX8_partsOf_31 (by decide) ?_
          refine b_icmp_eq (X := x.toInt) (Y := 112) (tgt := 64) rfl (by decide) dX8_partsOf_33 (by decide) ?_ ?_
          · intro e_33_t c_33_t
            refine e_iconst (v := 1) dX8_partsOf_64 (by decide) ?_
            refine e_goto (tgt := 69) dX8_partsOf_65 (by decide) ?_
            refine e_istore_n (i := 3) (ls2 := [some (.inl x), some (.inl g), some (.inl 0), some (.inl 1)]) dX8_partsOf_69 rfl (Nat.le_of_ble_eq_true rfl) rfl ?_
            refine e_iload_n (i := 2) dX8_partsOf_70 rfl rfl ?_
            refine b_if_eq (X := 0) (tgt := 78) (by decide) dX8_partsOf_71 (by decide) ?_ ?_
            · intro e_71_t c_71_t
              refine e_iload_n (i := 0) dX8_partsOf_78 rfl rfl ?_
              refine e_bipush (v := 63) dX8_partsOf_79 (by decide) ?_
              refine b_icmp_ne (X := x.toInt) (Y := 63) (tgt := 88) rfl (by decide) dX8_partsOf_81 (by decide) ?_ ?_
              · intro e_81_t c_81_t
                refine e_iload_n (i := 3) dX8_partsOf_88 rfl rfl ?_
                refine b_if_eq (X := 1) (tgt := 96) (by decide) dX8_partsOf_89 (by decide) ?_ ?_
                · intro e_89_t c_89_t
                  exfalso; omega
                · intro e_89_f c_89_f
                  refine e_iconst (v := 1) dX8_partsOf_92 (by decide) ?_
                  refine e_goto (tgt := 119) dX8_partsOf_93 (by decide) ?_
                  refine e_iret dX8_partsOf_119 (mret_i _) ?_
                  unfold mP at hR; first | exact hR | ((repeat' (split at hR)) <;> first | exact hR | (exfalso; omega))
              · intro e_81_f c_81_f
                refine e_iconst (v := 3) dX8_partsOf_84 (by decide) ?_
                refine e_goto (tgt := 119) dX8_partsOf_85 (by decide) ?_
                refine e_iret dX8_partsOf_119 (mret_i _) ?_
                unfold mP at hR; first | exact hR | ((repeat' (split at hR)) <;> first | exact hR | (exfalso; omega))
            · intro e_71_f c_71_f
              exfalso; omega
          · intro e_33_f c_33_f
            refine e_iload_n (i := 0) dX8_partsOf_36 rfl rfl ?_
            refine e_bipush (v := 113) dX8_partsOf_37 (by decide) ?_
            refine b_icmp_eq (X := x.toInt) (Y := 113) (tgt := 64) rfl (by decide) dX8_partsOf_39 (by decide) ?_ ?_
            · intro e_39_t c_39_t
              refine e_iconst (v := 1) dX8_partsOf_64 (by decide) ?_
              refine e_goto (tgt := 69) dX8_partsOf_65 (by decide) ?_
              refine e_istore_n (i := 3) (ls2 := [some (.inl x), some (.inl g), some (.inl 0), some (.inl 1)]) dX8_partsOf_69 rfl (Nat.le_of_ble_eq_true rfl) rfl ?_
              refine e_iload_n (i := 2) dX8_partsOf_70 rfl rfl ?_
              refine b_if_eq (X := 0) (tgt := 78) (by decide) dX8_partsOf_71 (by decide) ?_ ?_
              · intro e_71_t c_71_t
                refine e_iload_n (i := 0) dX8_partsOf_78 rfl rfl ?_
                refine e_bipush (v := 63) dX8_partsOf_79 (by decide) ?_
                refine b_icmp_ne (X := x.toInt) (Y := 63) (tgt := 88) rfl (by decide) dX8_partsOf_81 (by decide) ?_ ?_
                · intro e_81_t c_81_t
                  refine e_iload_n (i := 3) dX8_partsOf_88 rfl rfl ?_
                  refine b_if_eq (X := 1) (tgt := 96) (by decide) dX8_partsOf_89 (by decide) ?_ ?_
                  · intro e_89_t c_89_t
                    exfalso; omega
                  · intro e_89_f c_89_f
                    refine e_iconst (v := 1) dX8_partsOf_92 (by decide) ?_
                    refine e_goto (tgt := 119) dX8_partsOf_93 (by decide) ?_
                    refine e_iret dX8_partsOf_119 (mret_i _) ?_
                    unfold mP at hR; first | exact hR | ((repeat' (split at hR)) <;> first | exact hR | (exfalso; omega))
                · intro e_81_f c_81_f
                  refine e_iconst (v := 3) dX8_partsOf_84 (by decide) ?_
                  refine e_goto (tgt := 119) dX8_partsOf_85 (by decide) ?_
                  refine e_iret dX8_partsOf_119 (mret_i _) ?_
                  unfold mP at hR; first | exact hR | ((repeat' (split at hR)) <;> first | exact hR | (exfalso; omega))
              · intro e_71_f c_71_f
                exfalso; omega
            · intro e_39_f c_39_f
              refine e_iload_n (i := 0) dX8_partsOf_42 rfl rfl ?_
              refine e_bipush (v := 114) dX8_partsOf_43 (by decide) ?_
              refine b_icmp_eq (X := x.toInt) (Y := 114) (tgt := 64) rfl (by decide) dX8_partsOf_45 (by decide) ?_ ?_
              · intro e_45_t c_45_t
                refine e_iconst (v := 1) dX8_partsOf_64 (by decide) ?_
                refine e_goto (tgt := 69) dX8_partsOf_65 (by decide) ?_
                refine e_istore_n (i := 3) (ls2 := [some (.inl x), some (.inl g), some (.inl 0), some (.inl 1)]) dX8_partsOf_69 rfl (Nat.le_of_ble_eq_true rfl) rfl ?_
                refine e_iload_n (i := 2) dX8_partsOf_70 rfl rfl ?_
                refine b_if_eq (X := 0) (tgt := 78) (by decide) dX8_partsOf_71 (by decide) ?_ ?_
                · intro e_71_t c_71_t
                  refine e_iload_n (i := 0) dX8_partsOf_78 rfl rfl ?_
                  refine e_bipush (v := 63) dX8_partsOf_79 (by decide) ?_
                  refine b_icmp_ne (X := x.toInt) (Y := 63) (tgt := 88) rfl (by decide) dX8_partsOf_81 (by decide) ?_ ?_
                  · intro e_81_t c_81_t
                    refine e_iload_n (i := 3) dX8_partsOf_88 rfl rfl ?_
                    refine b_if_eq (X := 1) (tgt := 96) (by decide) dX8_partsOf_89 (by decide) ?_ ?_
                    · intro e_89_t c_89_t
                      exfalso; omega
                    · intro e_89_f c_89_f
                      refine e_iconst (v := 1) dX8_partsOf_92 (by decide) ?_
                      refine e_goto (tgt := 119) dX8_partsOf_93 (by decide) ?_
                      refine e_iret dX8_partsOf_119 (mret_i _) ?_
                      unfold mP at hR; first | exact hR | ((repeat' (split at hR)) <;> first | exact hR | (exfalso; omega))
                  · intro e_81_f c_81_f
                    refine e_iconst (v := 3) dX8_partsOf_84 (by decide) ?_
                    refine e_goto (tgt := 119) dX8_partsOf_85 (by decide) ?_
                    refine e_iret dX8_partsOf_119 (mret_i _) ?_
                    unfold mP at hR; first | exact hR | ((repeat' (split at hR)) <;> first | exact hR | (exfalso; omega))
                · intro e_71_f c_71_f
                  exfalso; omega
              · intro e_45_f c_45_f
                refine e_iload_n (i := 0) dX8_partsOf_48 rfl rfl ?_
                refine e_bipush (v := 64) dX8_partsOf_49 (by decide) ?_
                refine b_icmp_eq (X := x.toInt) (Y := 64) (tgt := 64) rfl (by decide) dX8_partsOf_51 (by decide) ?_ ?_
                · intro e_51_t c_51_t
                  refine e_iconst (v := 1) dX8_partsOf_64 (by decide) ?_
                  refine e_goto (tgt := 69) dX8_partsOf_65 (by decide) ?_
                  refine e_istore_n (i := 3) (ls2 := [some (.inl x), some (.inl g), some (.inl 0), some (.inl 1)]) dX8_partsOf_69 rfl (Nat.le_of_ble_eq_true rfl) rfl ?_
                  refine e_iload_n (i := 2) dX8_partsOf_70 rfl rfl ?_
                  refine b_if_eq (X := 0) (tgt := 78) (by decide) dX8_partsOf_71 (by decide) ?_ ?_
                  · intro e_71_t c_71_t
                    refine e_iload_n (i := 0) dX8_partsOf_78 rfl rfl ?_
                    refine e_bipush (v := 63) dX8_partsOf_79 (by decide) ?_
                    refine b_icmp_ne (X := x.toInt) (Y := 63) (tgt := 88) rfl (by decide) dX8_partsOf_81 (by decide) ?_ ?_
                    · intro e_81_t c_81_t
                      refine e_iload_n (i := 3) dX8_partsOf_88 rfl rfl ?_
                      refine b_if_eq (X := 1) (tgt := 96) (by decide) dX8_partsOf_89 (by decide) ?_ ?_
                      · intro e_89_t c_89_t
                        exfalso; omega
                      · intro e_89_f c_89_f
                        refine e_iconst (v := 1) dX8_partsOf_92 (by decide) ?_
                        refine e_goto (tgt := 119) dX8_partsOf_93 (by decide) ?_
                        refine e_iret dX8_partsOf_119 (mret_i _) ?_
                        unfold mP at hR; first | exact hR | ((repeat' (split at hR)) <;> first | exact hR | (exfalso; omega))
                    · intro e_81_f c_81_f
                      refine e_iconst (v := 3) dX8_partsOf_84 (by decide) ?_
                      refine e_goto (tgt := 119) dX8_partsOf_85 (by decide) ?_
                      refine e_iret dX8_partsOf_119 (mret_i _) ?_
                      unfold mP at hR; first | exact hR | ((repeat' (split at hR)) <;> first | exact hR | (exfalso; omega))
                  · intro e_71_f c_71_f
                    exfalso; omega
                · intro e_51_f c_51_f
                  refine e_iload_n (i := 0) dX8_partsOf_54 rfl rfl ?_
                  refine e_bipush (v := 107) dX8_partsOf_55 (by decide) ?_
                  refine b_icmp_ne (X := x.toInt) (Y := 107) (tgt := 68) rfl (by decide) dX8_partsOf_57 (by decide) ?_ ?_
                  · intro e_57_t c_57_t
                    refine e_iconst (v := 0) dX8_partsOf_68 (by decide) ?_
                    refine e_istore_n (i := 3) (ls2 := [some (.inl x), some (.inl g), some (.inl 0), some (.inl 0)]) dX8_partsOf_69 rfl (Nat.le_of_ble_eq_true rfl) rfl ?_
                    refine e_iload_n (i := 2) dX8_partsOf_70 rfl rfl ?_
                    refine b_if_eq (X := 0) (tgt := 78) (by decide) dX8_partsOf_71 (by decide) ?_ ?_
                    · intro e_71_t c_71_t
                      refine e_iload_n (i := 0) dX8_partsOf_78 rfl rfl ?_
                      refine e_bipush (v := 63) dX8_partsOf_79 (by decide) ?_
                      refine b_icmp_ne (X := x.toInt) (Y := 63) (tgt := 88) rfl (by decide) dX8_partsOf_81 (by decide) ?_ ?_
                      · intro e_81_t c_81_t
                        refine e_iload_n (i := 3) dX8_partsOf_88 rfl rfl ?_
                        refine b_if_eq (X := 0) (tgt := 96) (by decide) dX8_partsOf_89 (by decide) ?_ ?_
                        · intro e_89_t c_89_t
                          refine e_iload_n (i := 0) dX8_partsOf_96 rfl rfl ?_
                          refine e_bipush (v := 48) dX8_partsOf_97 (by decide) ?_
                          refine e_bipush (v := 55) dX8_partsOf_99 (by decide) ?_
                          refine e_invSi (As := [.inl x, .inl 48, .inl 55]) (v := 1) (h2 := h) dX8_partsOf_101 lk_X8_85 ys_X8_in rfl rfl rfl (Nat.le_of_ble_eq_true rfl) (Nat.le_of_ble_eq_true rfl) ⟨Nat.le_of_ble_eq_true rfl, Nat.le_of_ble_eq_true rfl⟩ (k_M_in (Y := 48) (Z := 55) l h x 48 55 rfl (by decide) (by decide) (if_pos hx)) ?_
                          refine b_if_ne (X := 1) (tgt := 113) (by decide) dX8_partsOf_104 (by decide) ?_ ?_
                          · intro e_104_t c_104_t
                            refine e_iconst (v := 0) dX8_partsOf_113 (by decide) ?_
                            refine e_goto (tgt := 119) dX8_partsOf_114 (by decide) ?_
                            refine e_iret dX8_partsOf_119 (mret_i _) ?_
                            unfold mP at hR; first | exact hR | ((repeat' (split at hR)) <;> first | exact hR | (exfalso; omega))
                          · intro e_104_f c_104_f
                            exfalso; omega
                        · intro e_89_f c_89_f
                          exfalso; omega
                      · intro e_81_f c_81_f
                        refine e_iconst (v := 3) dX8_partsOf_84 (by decide) ?_
                        refine e_goto (tgt := 119) dX8_partsOf_85 (by decide) ?_
                        refine e_iret dX8_partsOf_119 (mret_i _) ?_
                        unfold mP at hR; first | exact hR | ((repeat' (split at hR)) <;> first | exact hR | (exfalso; omega))
                    · intro e_71_f c_71_f
                      exfalso; omega
                  · intro e_57_f c_57_f
                    refine e_iload_n (i := 1) dX8_partsOf_60 rfl rfl ?_
                    refine b_if_eq (X := g.toInt) (tgt := 68) rfl dX8_partsOf_61 (by decide) ?_ ?_
                    · intro e_61_t c_61_t
                      refine e_iconst (v := 0) dX8_partsOf_68 (by decide) ?_
                      refine e_istore_n (i := 3) (ls2 := [some (.inl x), some (.inl g), some (.inl 0), some (.inl 0)]) dX8_partsOf_69 rfl (Nat.le_of_ble_eq_true rfl) rfl ?_
                      refine e_iload_n (i := 2) dX8_partsOf_70 rfl rfl ?_
                      refine b_if_eq (X := 0) (tgt := 78) (by decide) dX8_partsOf_71 (by decide) ?_ ?_
                      · intro e_71_t c_71_t
                        refine e_iload_n (i := 0) dX8_partsOf_78 rfl rfl ?_
                        refine e_bipush (v := 63) dX8_partsOf_79 (by decide) ?_
                        refine b_icmp_ne (X := x.toInt) (Y := 63) (tgt := 88) rfl (by decide) dX8_partsOf_81 (by decide) ?_ ?_
                        · intro e_81_t c_81_t
                          refine e_iload_n (i := 3) dX8_partsOf_88 rfl rfl ?_
                          refine b_if_eq (X := 0) (tgt := 96) (by decide) dX8_partsOf_89 (by decide) ?_ ?_
                          · intro e_89_t c_89_t
                            refine e_iload_n (i := 0) dX8_partsOf_96 rfl rfl ?_
                            refine e_bipush (v := 48) dX8_partsOf_97 (by decide) ?_
                            refine e_bipush (v := 55) dX8_partsOf_99 (by decide) ?_
                            refine e_invSi (As := [.inl x, .inl 48, .inl 55]) (v := 1) (h2 := h) dX8_partsOf_101 lk_X8_85 ys_X8_in rfl rfl rfl (Nat.le_of_ble_eq_true rfl) (Nat.le_of_ble_eq_true rfl) ⟨Nat.le_of_ble_eq_true rfl, Nat.le_of_ble_eq_true rfl⟩ (k_M_in (Y := 48) (Z := 55) l h x 48 55 rfl (by decide) (by decide) (if_pos hx)) ?_
                            refine b_if_ne (X := 1) (tgt := 113) (by decide) dX8_partsOf_104 (by decide) ?_ ?_
                            · intro e_104_t c_104_t
                              refine e_iconst (v := 0) dX8_partsOf_113 (by decide) ?_
                              refine e_goto (tgt := 119) dX8_partsOf_114 (by decide) ?_
                              refine e_iret dX8_partsOf_119 (mret_i _) ?_
                              unfold mP at hR; first | exact hR | ((repeat' (split at hR)) <;> first | exact hR | (exfalso; omega))
                            · intro e_104_f c_104_f
                              exfalso; omega
                          · intro e_89_f c_89_f
                            exfalso; omega
                        · intro e_81_f c_81_f
                          refine e_iconst (v := 3) dX8_partsOf_84 (by decide) ?_
                          refine e_goto (tgt := 119) dX8_partsOf_85 (by decide) ?_
                          refine e_iret dX8_partsOf_119 (mret_i _) ?_
                          unfold mP at hR; first | exact hR | ((repeat' (split at hR)) <;> first | exact hR | (exfalso; omega))
                      · intro e_71_f c_71_f
                        exfalso; omega
                    · intro e_61_f c_61_f
                      refine e_iconst (v := 1) dX8_partsOf_64 (by decide) ?_
                      refine e_goto (tgt := 69) dX8_partsOf_65 (by decide) ?_
                      refine e_istore_n (i := 3) (ls2 := [some (.inl x), some (.inl g), some (.inl 0), some (.inl 1)]) dX8_partsOf_69 rfl (Nat.le_of_ble_eq_true rfl) rfl ?_
                      refine e_iload_n (i := 2) dX8_partsOf_70 rfl rfl ?_
                      refine b_if_eq (X := 0) (tgt := 78) (by decide) dX8_partsOf_71 (by decide) ?_ ?_
                      · intro e_71_t c_71_t
                        refine e_iload_n (i := 0) dX8_partsOf_78 rfl rfl ?_
                        refine e_bipush (v := 63) dX8_partsOf_79 (by decide) ?_
                        refine b_icmp_ne (X := x.toInt) (Y := 63) (tgt := 88) rfl (by decide) dX8_partsOf_81 (by decide) ?_ ?_
                        · intro e_81_t c_81_t
                          refine e_iload_n (i := 3) dX8_partsOf_88 rfl rfl ?_
                          refine b_if_eq (X := 1) (tgt := 96) (by decide) dX8_partsOf_89 (by decide) ?_ ?_
                          · intro e_89_t c_89_t
                            exfalso; omega
                          · intro e_89_f c_89_f
                            refine e_iconst (v := 1) dX8_partsOf_92 (by decide) ?_
                            refine e_goto (tgt := 119) dX8_partsOf_93 (by decide) ?_
                            refine e_iret dX8_partsOf_119 (mret_i _) ?_
                            unfold mP at hR; first | exact hR | ((repeat' (split at hR)) <;> first | exact hR | (exfalso; omega))
                        · intro e_81_f c_81_f
                          refine e_iconst (v := 3) dX8_partsOf_84 (by decide) ?_
                          refine e_goto (tgt := 119) dX8_partsOf_85 (by decide) ?_
                          refine e_iret dX8_partsOf_119 (mret_i _) ?_
                          unfold mP at hR; first | exact hR | ((repeat' (split at hR)) <;> first | exact hR | (exfalso; omega))
                      · intro e_71_f c_71_f
                        exfalso; omega
        · intro e_21_f c_21_f
          refine e_iconst (v := 1) dX8_partsOf_24 (by decide) ?_
          refine e_goto (tgt := 29) dX8_partsOf_25 (by decide) ?_
          refine e_istore_n (i := 2) (ls2 := [some (.inl x), some (.inl g), some (.inl 1), none]) dX8_partsOf_29 rfl (Nat.le_of_ble_eq_true rfl) rfl ?_
          refine e_iload_n (i := 0) dX8_partsOf_30 rfl rfl ?_
          refine e_bipush (v := 112) dX8_partsOf_31 (by decide) ?_
          refine b_icmp_eq (X := x.toInt) (Y := 112) (tgt := 64) rfl (by decide) dX8_partsOf_33 (by decide) ?_ ?_
          · intro e_33_t c_33_t
            refine e_iconst (v := 1) dX8_partsOf_64 (by decide) ?_
            refine e_goto (tgt := 69) dX8_partsOf_65 (by decide) ?_
            refine e_istore_n (i := 3) (ls2 := [some (.inl x), some (.inl g), some (.inl 1), some (.inl 1)]) dX8_partsOf_69 rfl (Nat.le_of_ble_eq_true rfl) rfl ?_
            refine e_iload_n (i := 2) dX8_partsOf_70 rfl rfl ?_
            refine b_if_eq (X := 1) (tgt := 78) (by decide) dX8_partsOf_71 (by decide) ?_ ?_
            · intro e_71_t c_71_t
              exfalso; omega
            · intro e_71_f c_71_f
              refine e_iconst (v := 2) dX8_partsOf_74 (by decide) ?_
              refine e_goto (tgt := 119) dX8_partsOf_75 (by decide) ?_
              refine e_iret dX8_partsOf_119 (mret_i _) ?_
              unfold mP at hR; first | exact hR | ((repeat' (split at hR)) <;> first | exact hR | (exfalso; omega))
          · intro e_33_f c_33_f
            refine e_iload_n (i := 0) dX8_partsOf_36 rfl rfl ?_
            refine e_bipush (v := 113) dX8_partsOf_37 (by decide) ?_
            refine b_icmp_eq (X := x.toInt) (Y := 113) (tgt := 64) rfl (by decide) dX8_partsOf_39 (by decide) ?_ ?_
            · intro e_39_t c_39_t
              refine e_iconst (v := 1) dX8_partsOf_64 (by decide) ?_
              refine e_goto (tgt := 69) dX8_partsOf_65 (by decide) ?_
              refine e_istore_n (i := 3) (ls2 := [some (.inl x), some (.inl g), some (.inl 1), some (.inl 1)]) dX8_partsOf_69 rfl (Nat.le_of_ble_eq_true rfl) rfl ?_
              refine e_iload_n (i := 2) dX8_partsOf_70 rfl rfl ?_
              refine b_if_eq (X := 1) (tgt := 78) (by decide) dX8_partsOf_71 (by decide) ?_ ?_
              · intro e_71_t c_71_t
                exfalso; omega
              · intro e_71_f c_71_f
                refine e_iconst (v := 2) dX8_partsOf_74 (by decide) ?_
                refine e_goto (tgt := 119) dX8_partsOf_75 (by decide) ?_
                refine e_iret dX8_partsOf_119 (mret_i _) ?_
                unfold mP at hR; first | exact hR | ((repeat' (split at hR)) <;> first | exact hR | (exfalso; omega))
            · intro e_39_f c_39_f
              refine e_iload_n (i := 0) dX8_partsOf_42 rfl rfl ?_
              refine e_bipush (v := 114) dX8_partsOf_43 (by decide) ?_
              refine b_icmp_eq (X := x.toInt) (Y := 114) (tgt := 64) rfl (by decide) dX8_partsOf_45 (by decide) ?_ ?_
              · intro e_45_t c_45_t
                refine e_iconst (v := 1) dX8_partsOf_64 (by decide) ?_
                refine e_goto (tgt := 69) dX8_partsOf_65 (by decide) ?_
                refine e_istore_n (i := 3) (ls2 := [some (.inl x), some (.inl g), some (.inl 1), some (.inl 1)]) dX8_partsOf_69 rfl (Nat.le_of_ble_eq_true rfl) rfl ?_
                refine e_iload_n (i := 2) dX8_partsOf_70 rfl rfl ?_
                refine b_if_eq (X := 1) (tgt := 78) (by decide) dX8_partsOf_71 (by decide) ?_ ?_
                · intro e_71_t c_71_t
                  exfalso; omega
                · intro e_71_f c_71_f
                  refine e_iconst (v := 2) dX8_partsOf_74 (by decide) ?_
                  refine e_goto (tgt := 119) dX8_partsOf_75 (by decide) ?_
                  refine e_iret dX8_partsOf_119 (mret_i _) ?_
                  unfold mP at hR; first | exact hR | ((repeat' (split at hR)) <;> first | exact hR | (exfalso; omega))
              · intro e_45_f c_45_f
                refine e_iload_n (i := 0) dX8_partsOf_48 rfl rfl ?_
                refine e_bipush (v := 64) dX8_partsOf_49 (by decide) ?_
                refine b_icmp_eq (X := x.toInt) (Y := 64) (tgt := 64) rfl (by decide) dX8_partsOf_51 (by decide) ?_ ?_
                · intro e_51_t c_51_t
                  refine e_iconst (v := 1) dX8_partsOf_64 (by decide) ?_
                  refine e_goto (tgt := 69) dX8_partsOf_65 (by decide) ?_
                  refine e_istore_n (i := 3) (ls2 := [some (.inl x), some (.inl g), some (.inl 1), some (.inl 1)]) dX8_partsOf_69 rfl (Nat.le_of_ble_eq_true rfl) rfl ?_
                  refine e_iload_n (i := 2) dX8_partsOf_70 rfl rfl ?_
                  refine b_if_eq (X := 1) (tgt := 78) (by decide) dX8_partsOf_71 (by decide) ?_ ?_
                  · intro e_71_t c_71_t
                    exfalso; omega
                  · intro e_71_f c_71_f
                    refine e_iconst (v := 2) dX8_partsOf_74 (by decide) ?_
                    refine e_goto (tgt := 119) dX8_partsOf_75 (by decide) ?_
                    refine e_iret dX8_partsOf_119 (mret_i _) ?_
                    unfold mP at hR; first | exact hR | ((repeat' (split at hR)) <;> first | exact hR | (exfalso; omega))
                · intro e_51_f c_51_f
                  refine e_iload_n (i := 0) dX8_partsOf_54 rfl rfl ?_
                  refine e_bipush (v := 107) dX8_partsOf_55 (by decide) ?_
                  refine b_icmp_ne (X := x.toInt) (Y := 107) (tgt := 68) rfl (by decide) dX8_partsOf_57 (by decide) ?_ ?_
                  · intro e_57_t c_57_t
                    refine e_iconst (v := 0) dX8_partsOf_68 (by decide) ?_
                    refine e_istore_n (i := 3) (ls2 := [some (.inl x), some (.inl g), some (.inl 1), some (.inl 0)]) dX8_partsOf_69 rfl (Nat.le_of_ble_eq_true rfl) rfl ?_
                    refine e_iload_n (i := 2) dX8_partsOf_70 rfl rfl ?_
                    refine b_if_eq (X := 1) (tgt := 78) (by decide) dX8_partsOf_71 (by decide) ?_ ?_
                    · intro e_71_t c_71_t
                      exfalso; omega
                    · intro e_71_f c_71_f
                      refine e_iconst (v := 2) dX8_partsOf_74 (by decide) ?_
                      refine e_goto (tgt := 119) dX8_partsOf_75 (by decide) ?_
                      refine e_iret dX8_partsOf_119 (mret_i _) ?_
                      unfold mP at hR; first | exact hR | ((repeat' (split at hR)) <;> first | exact hR | (exfalso; omega))
                  · intro e_57_f c_57_f
                    refine e_iload_n (i := 1) dX8_partsOf_60 rfl rfl ?_
                    refine b_if_eq (X := g.toInt) (tgt := 68) rfl dX8_partsOf_61 (by decide) ?_ ?_
                    · intro e_61_t c_61_t
                      refine e_iconst (v := 0) dX8_partsOf_68 (by decide) ?_
                      refine e_istore_n (i := 3) (ls2 := [some (.inl x), some (.inl g), some (.inl 1), some (.inl 0)]) dX8_partsOf_69 rfl (Nat.le_of_ble_eq_true rfl) rfl ?_
                      refine e_iload_n (i := 2) dX8_partsOf_70 rfl rfl ?_
                      refine b_if_eq (X := 1) (tgt := 78) (by decide) dX8_partsOf_71 (by decide) ?_ ?_
                      · intro e_71_t c_71_t
                        exfalso; omega
                      · intro e_71_f c_71_f
                        refine e_iconst (v := 2) dX8_partsOf_74 (by decide) ?_
                        refine e_goto (tgt := 119) dX8_partsOf_75 (by decide) ?_
                        refine e_iret dX8_partsOf_119 (mret_i _) ?_
                        unfold mP at hR; first | exact hR | ((repeat' (split at hR)) <;> first | exact hR | (exfalso; omega))
                    · intro e_61_f c_61_f
                      refine e_iconst (v := 1) dX8_partsOf_64 (by decide) ?_
                      refine e_goto (tgt := 69) dX8_partsOf_65 (by decide) ?_
                      refine e_istore_n (i := 3) (ls2 := [some (.inl x), some (.inl g), some (.inl 1), some (.inl 1)]) dX8_partsOf_69 rfl (Nat.le_of_ble_eq_true rfl) rfl ?_
                      refine e_iload_n (i := 2) dX8_partsOf_70 rfl rfl ?_
                      refine b_if_eq (X := 1) (tgt := 78) (by decide) dX8_partsOf_71 (by decide) ?_ ?_
                      · intro e_71_t c_71_t
                        exfalso; omega
                      · intro e_71_f c_71_f
                        refine e_iconst (v := 2) dX8_partsOf_74 (by decide) ?_
                        refine e_goto (tgt := 119) dX8_partsOf_75 (by decide) ?_
                        refine e_iret dX8_partsOf_119 (mret_i _) ?_
                        unfold mP at hR; first | exact hR | ((repeat' (split at hR)) <;> first | exact hR | (exfalso; omega))
set_option maxHeartbeats 1000000 in
theorem k_M_partsN (l : Launch) (h : mH) (x g : Int32) (hx : ¬ (48 ≤ x.toInt ∧ x.toInt ≤ 55)) : mD l Sh0 iX8_partsOf [.inl x, .inl g] h (some (mP x.toInt g.toInt)) h := by
  intro RT hR
  show mE l Sh0 none iX8_partsOf RT 0 [some (.inl x), some (.inl g), none, none] [] h
  refine e_iload_n (i := 0) dX8_partsOf_0 rfl rfl ?_
  refine e_bipush (v := 43) dX8_partsOf_1 (by decide) ?_
  refine b_icmp_eq (X := x.toInt) (Y := 43) (tgt := 24) rfl (by decide) dX8_partsOf_3 (by decide) ?_ ?_
  · intro e_3_t c_3_t
    refine e_iconst (v := 1) dX8_partsOf_24 (by decide) ?_
    refine e_goto (tgt := 29) dX8_partsOf_25 (by decide) ?_
    refine e_istore_n (i := 2) (ls2 := [some (.inl x), some (.inl g), some (.inl 1), none]) dX8_partsOf_29 rfl (Nat.le_of_ble_eq_true rfl) rfl ?_
    refine e_iload_n (i := 0) dX8_partsOf_30 rfl rfl ?_
    refine e_bipush (v := 112) dX8_partsOf_31 (by decide) ?_
    refine b_icmp_eq (X := x.toInt) (Y := 112) (tgt := 64) rfl (by decide) dX8_partsOf_33 (by decide) ?_ ?_
    · intro e_33_t c_33_t
      refine e_iconst (v := 1) dX8_partsOf_64 (by decide) ?_
      refine e_goto (tgt := 69) dX8_partsOf_65 (by decide) ?_
      refine e_istore_n (i := 3) (ls2 := [some (.inl x), some (.inl g), some (.inl 1), some (.inl 1)]) dX8_partsOf_69 rfl (Nat.le_of_ble_eq_true rfl) rfl ?_
      refine e_iload_n (i := 2) dX8_partsOf_70 rfl rfl ?_
      refine b_if_eq (X := 1) (tgt := 78) (by decide) dX8_partsOf_71 (by decide) ?_ ?_
      · intro e_71_t c_71_t
        exfalso; omega
      · intro e_71_f c_71_f
        refine e_iconst (v := 2) dX8_partsOf_74 (by decide) ?_
        refine e_goto (tgt := 119) dX8_partsOf_75 (by decide) ?_
        refine e_iret dX8_partsOf_119 (mret_i _) ?_
        unfold mP at hR; first | exact hR | ((repeat' (split at hR)) <;> first | exact hR | (exfalso; omega))
    · intro e_33_f c_33_f
      refine e_iload_n (i := 0) dX8_partsOf_36 rfl rfl ?_
      refine e_bipush (v := 113) dX8_partsOf_37 (by decide) ?_
      refine b_icmp_eq (X := x.toInt) (Y := 113) (tgt := 64) rfl (by decide) dX8_partsOf_39 (by decide) ?_ ?_
      · intro e_39_t c_39_t
        refine e_iconst (v := 1) dX8_partsOf_64 (by decide) ?_
        refine e_goto (tgt := 69) dX8_partsOf_65 (by decide) ?_
        refine e_istore_n (i := 3) (ls2 := [some (.inl x), some (.inl g), some (.inl 1), some (.inl 1)]) dX8_partsOf_69 rfl (Nat.le_of_ble_eq_true rfl) rfl ?_
        refine e_iload_n (i := 2) dX8_partsOf_70 rfl rfl ?_
        refine b_if_eq (X := 1) (tgt := 78) (by decide) dX8_partsOf_71 (by decide) ?_ ?_
        · intro e_71_t c_71_t
          exfalso; omega
        · intro e_71_f c_71_f
          refine e_iconst (v := 2) dX8_partsOf_74 (by decide) ?_
          refine e_goto (tgt := 119) dX8_partsOf_75 (by decide) ?_
          refine e_iret dX8_partsOf_119 (mret_i _) ?_
          unfold mP at hR; first | exact hR | ((repeat' (split at hR)) <;> first | exact hR | (exfalso; omega))
      · intro e_39_f c_39_f
        refine e_iload_n (i := 0) dX8_partsOf_42 rfl rfl ?_
        refine e_bipush (v := 114) dX8_partsOf_43 (by decide) ?_
        refine b_icmp_eq (X := x.toInt) (Y := 114) (tgt := 64) rfl (by decide) dX8_partsOf_45 (by decide) ?_ ?_
        · intro e_45_t c_45_t
          refine e_iconst (v := 1) dX8_partsOf_64 (by decide) ?_
          refine e_goto (tgt := 69) dX8_partsOf_65 (by decide) ?_
          refine e_istore_n (i := 3) (ls2 := [some (.inl x), some (.inl g), some (.inl 1), some (.inl 1)]) dX8_partsOf_69 rfl (Nat.le_of_ble_eq_true rfl) rfl ?_
          refine e_iload_n (i := 2) dX8_partsOf_70 rfl rfl ?_
          refine b_if_eq (X := 1) (tgt := 78) (by decide) dX8_partsOf_71 (by decide) ?_ ?_
          · intro e_71_t c_71_t
            exfalso; omega
          · intro e_71_f c_71_f
            refine e_iconst (v := 2) dX8_partsOf_74 (by decide) ?_
            refine e_goto (tgt := 119) dX8_partsOf_75 (by decide) ?_
            refine e_iret dX8_partsOf_119 (mret_i _) ?_
            unfold mP at hR; first | exact hR | ((repeat' (split at hR)) <;> first | exact hR | (exfalso; omega))
        · intro e_45_f c_45_f
          refine e_iload_n (i := 0) dX8_partsOf_48 rfl rfl ?_
          refine e_bipush (v := 64) dX8_partsOf_49 (by decide) ?_
          refine b_icmp_eq (X := x.toInt) (Y := 64) (tgt := 64) rfl (by decide) dX8_partsOf_51 (by decide) ?_ ?_
          · intro e_51_t c_51_t
            refine e_iconst (v := 1) dX8_partsOf_64 (by decide) ?_
            refine e_goto (tgt := 69) dX8_partsOf_65 (by decide) ?_
            refine e_istore_n (i := 3) (ls2 := [some (.inl x), some (.inl g), some (.inl 1), some (.inl 1)]) dX8_partsOf_69 rfl (Nat.le_of_ble_eq_true rfl) rfl ?_
            refine e_iload_n (i := 2) dX8_partsOf_70 rfl rfl ?_
            refine b_if_eq (X := 1) (tgt := 78) (by decide) dX8_partsOf_71 (by decide) ?_ ?_
            · intro e_71_t c_71_t
              exfalso; omega
            · intro e_71_f c_71_f
              refine e_iconst (v := 2) dX8_partsOf_74 (by decide) ?_
              refine e_goto (tgt := 119) dX8_partsOf_75 (by decide) ?_
              refine e_iret dX8_partsOf_119 (mret_i _) ?_
              unfold mP at hR; first | exact hR | ((repeat' (split at hR)) <;> first | exact hR | (exfalso; omega))
          · intro e_51_f c_51_f
            refine e_iload_n (i := 0) dX8_partsOf_54 rfl rfl ?_
            refine e_bipush (v := 107) dX8_partsOf_55 (by decide) ?_
            refine b_icmp_ne (X := x.toInt) (Y := 107) (tgt := 68) rfl (by decide) dX8_partsOf_57 (by decide) ?_ ?_
            · intro e_57_t c_57_t
              refine e_iconst (v := 0) dX8_partsOf_68 (by decide) ?_
              refine e_istore_n (i := 3) (ls2 := [some (.inl x), some (.inl g), some (.inl 1), some (.inl 0)]) dX8_partsOf_69 rfl (Nat.le_of_ble_eq_true rfl) rfl ?_
              refine e_iload_n (i := 2) dX8_partsOf_70 rfl rfl ?_
              refine b_if_eq (X := 1) (tgt := 78) (by decide) dX8_partsOf_71 (by decide) ?_ ?_
              · intro e_71_t c_71_t
                exfalso; omega
              · intro e_71_f c_71_f
                refine e_iconst (v := 2) dX8_partsOf_74 (by decide) ?_
                refine e_goto (tgt := 119) dX8_partsOf_75 (by decide) ?_
                refine e_iret dX8_partsOf_119 (mret_i _) ?_
                unfold mP at hR; first | exact hR | ((repeat' (split at hR)) <;> first | exact hR | (exfalso; omega))
            · intro e_57_f c_57_f
              refine e_iload_n (i := 1) dX8_partsOf_60 rfl rfl ?_
              refine b_if_eq (X := g.toInt) (tgt := 68) rfl dX8_partsOf_61 (by decide) ?_ ?_
              · intro e_61_t c_61_t
                refine e_iconst (v := 0) dX8_partsOf_68 (by decide) ?_
                refine e_istore_n (i := 3) (ls2 := [some (.inl x), some (.inl g), some (.inl 1), some (.inl 0)]) dX8_partsOf_69 rfl (Nat.le_of_ble_eq_true rfl) rfl ?_
                refine e_iload_n (i := 2) dX8_partsOf_70 rfl rfl ?_
                refine b_if_eq (X := 1) (tgt := 78) (by decide) dX8_partsOf_71 (by decide) ?_ ?_
                · intro e_71_t c_71_t
                  exfalso; omega
                · intro e_71_f c_71_f
                  refine e_iconst (v := 2) dX8_partsOf_74 (by decide) ?_
                  refine e_goto (tgt := 119) dX8_partsOf_75 (by decide) ?_
                  refine e_iret dX8_partsOf_119 (mret_i _) ?_
                  unfold mP at hR; first | exact hR | ((repeat' (split at hR)) <;> first | exact hR | (exfalso; omega))
              · intro e_61_f c_61_f
                refine e_iconst (v := 1) dX8_partsOf_64 (by decide) ?_
                refine e_goto (tgt := 69) dX8_partsOf_65 (by decide) ?_
                refine e_istore_n (i := 3) (ls2 := [some (.inl x), some (.inl g), some (.inl 1), some (.inl 1)]) dX8_partsOf_69 rfl (Nat.le_of_ble_eq_true rfl) rfl ?_
                refine e_iload_n (i := 2) dX8_partsOf_70 rfl rfl ?_
                refine b_if_eq (X := 1) (tgt := 78) (by decide) dX8_partsOf_71 (by decide) ?_ ?_
                · intro e_71_t c_71_t
                  exfalso; omega
                · intro e_71_f c_71_f
                  refine e_iconst (v := 2) dX8_partsOf_74 (by decide) ?_
                  refine e_goto (tgt := 119) dX8_partsOf_75 (by decide) ?_
                  refine e_iret dX8_partsOf_119 (mret_i _) ?_
                  unfold mP at hR; first | exact hR | ((repeat' (split at hR)) <;> first | exact hR | (exfalso; omega))
  · intro e_3_f c_3_f
    refine e_iload_n (i := 0) dX8_partsOf_6 rfl rfl ?_
    refine e_bipush (v := 45) dX8_partsOf_7 (by decide) ?_
    refine b_icmp_eq (X := x.toInt) (Y := 45) (tgt := 24) rfl (by decide) dX8_partsOf_9 (by decide) ?_ ?_
    · intro e_9_t c_9_t
      refine e_iconst (v := 1) dX8_partsOf_24 (by decide) ?_
      refine e_goto (tgt := 29) dX8_partsOf_25 (by decide) ?_
      refine e_istore_n (i := 2) (ls2 := [some (.inl x), some (.inl g), some (.inl 1), none]) dX8_partsOf_29 rfl (Nat.le_of_ble_eq_true rfl) rfl ?_
      refine e_iload_n (i := 0) dX8_partsOf_30 rfl rfl ?_
      refine e_bipush (v := 112) dX8_partsOf_31 (by decide) ?_
      refine b_icmp_eq (X := x.toInt) (Y := 112) (tgt := 64) rfl (by decide) dX8_partsOf_33 (by decide) ?_ ?_
      · intro e_33_t c_33_t
        refine e_iconst (v := 1) dX8_partsOf_64 (by decide) ?_
        refine e_goto (tgt := 69) dX8_partsOf_65 (by decide) ?_
        refine e_istore_n (i := 3) (ls2 := [some (.inl x), some (.inl g), some (.inl 1), some (.inl 1)]) dX8_partsOf_69 rfl (Nat.le_of_ble_eq_true rfl) rfl ?_
        refine e_iload_n (i := 2) dX8_partsOf_70 rfl rfl ?_
        refine b_if_eq (X := 1) (tgt := 78) (by decide) dX8_partsOf_71 (by decide) ?_ ?_
        · intro e_71_t c_71_t
          exfalso; omega
        · intro e_71_f c_71_f
          refine e_iconst (v := 2) dX8_partsOf_74 (by decide) ?_
          refine e_goto (tgt := 119) dX8_partsOf_75 (by decide) ?_
          refine e_iret dX8_partsOf_119 (mret_i _) ?_
          unfold mP at hR; first | exact hR | ((repeat' (split at hR)) <;> first | exact hR | (exfalso; omega))
      · intro e_33_f c_33_f
        refine e_iload_n (i := 0) dX8_partsOf_36 rfl rfl ?_
        refine e_bipush (v := 113) dX8_partsOf_37 (by decide) ?_
        refine b_icmp_eq (X := x.toInt) (Y := 113) (tgt := 64) rfl (by decide) dX8_partsOf_39 (by decide) ?_ ?_
        · intro e_39_t c_39_t
          refine e_iconst (v := 1) dX8_partsOf_64 (by decide) ?_
          refine e_goto (tgt := 69) dX8_partsOf_65 (by decide) ?_
          refine e_istore_n (i := 3) (ls2 := [some (.inl x), some (.inl g), some (.inl 1), some (.inl 1)]) dX8_partsOf_69 rfl (Nat.le_of_ble_eq_true rfl) rfl ?_
          refine e_iload_n (i := 2) dX8_partsOf_70 rfl rfl ?_
          refine b_if_eq (X := 1) (tgt := 78) (by decide) dX8_partsOf_71 (by decide) ?_ ?_
          · intro e_71_t c_71_t
            exfalso; omega
          · intro e_71_f c_71_f
            refine e_iconst (v := 2) dX8_partsOf_74 (by decide) ?_
            refine e_goto (tgt := 119) dX8_partsOf_75 (by decide) ?_
            refine e_iret dX8_partsOf_119 (mret_i _) ?_
            unfold mP at hR; first | exact hR | ((repeat' (split at hR)) <;> first | exact hR | (exfalso; omega))
        · intro e_39_f c_39_f
          refine e_iload_n (i := 0) dX8_partsOf_42 rfl rfl ?_
          refine e_bipush (v := 114) dX8_partsOf_43 (by decide) ?_
          refine b_icmp_eq (X := x.toInt) (Y := 114) (tgt := 64) rfl (by decide) dX8_partsOf_45 (by decide) ?_ ?_
          · intro e_45_t c_45_t
            refine e_iconst (v := 1) dX8_partsOf_64 (by decide) ?_
            refine e_goto (tgt := 69) dX8_partsOf_65 (by decide) ?_
            refine e_istore_n (i := 3) (ls2 := [some (.inl x), some (.inl g), some (.inl 1), some (.inl 1)]) dX8_partsOf_69 rfl (Nat.le_of_ble_eq_true rfl) rfl ?_
            refine e_iload_n (i := 2) dX8_partsOf_70 rfl rfl ?_
            refine b_if_eq (X := 1) (tgt := 78) (by decide) dX8_partsOf_71 (by decide) ?_ ?_
            · intro e_71_t c_71_t
              exfalso; omega
            · intro e_71_f c_71_f
              refine e_iconst (v := 2) dX8_partsOf_74 (by decide) ?_
              refine e_goto (tgt := 119) dX8_partsOf_75 (by decide) ?_
              refine e_iret dX8_partsOf_119 (mret_i _) ?_
              unfold mP at hR; first | exact hR | ((repeat' (split at hR)) <;> first | exact hR | (exfalso; omega))
          · intro e_45_f c_45_f
            refine e_iload_n (i := 0) dX8_partsOf_48 rfl rfl ?_
            refine e_bipush (v := 64) dX8_partsOf_49 (by decide) ?_
            refine b_icmp_eq (X := x.toInt) (Y := 64) (tgt := 64) rfl (by decide) dX8_partsOf_51 (by decide) ?_ ?_
            · intro e_51_t c_51_t
              refine e_iconst (v := 1) dX8_partsOf_64 (by decide) ?_
              refine e_goto (tgt := 69) dX8_partsOf_65 (by decide) ?_
              refine e_istore_n (i := 3) (ls2 := [some (.inl x), some (.inl g), some (.inl 1), some (.inl 1)]) dX8_partsOf_69 rfl (Nat.le_of_ble_eq_true rfl) rfl ?_
              refine e_iload_n (i := 2) dX8_partsOf_70 rfl rfl ?_
              refine b_if_eq (X := 1) (tgt := 78) (by decide) dX8_partsOf_71 (by decide) ?_ ?_
              · intro e_71_t c_71_t
                exfalso; omega
              · intro e_71_f c_71_f
                refine e_iconst (v := 2) dX8_partsOf_74 (by decide) ?_
                refine e_goto (tgt := 119) dX8_partsOf_75 (by decide) ?_
                refine e_iret dX8_partsOf_119 (mret_i _) ?_
                unfold mP at hR; first | exact hR | ((repeat' (split at hR)) <;> first | exact hR | (exfalso; omega))
            · intro e_51_f c_51_f
              refine e_iload_n (i := 0) dX8_partsOf_54 rfl rfl ?_
              refine e_bipush (v := 107) dX8_partsOf_55 (by decide) ?_
              refine b_icmp_ne (X := x.toInt) (Y := 107) (tgt := 68) rfl (by decide) dX8_partsOf_57 (by decide) ?_ ?_
              · intro e_57_t c_57_t
                refine e_iconst (v := 0) dX8_partsOf_68 (by decide) ?_
                refine e_istore_n (i := 3) (ls2 := [some (.inl x), some (.inl g), some (.inl 1), some (.inl 0)]) dX8_partsOf_69 rfl (Nat.le_of_ble_eq_true rfl) rfl ?_
                refine e_iload_n (i := 2) dX8_partsOf_70 rfl rfl ?_
                refine b_if_eq (X := 1) (tgt := 78) (by decide) dX8_partsOf_71 (by decide) ?_ ?_
                · intro e_71_t c_71_t
                  exfalso; omega
                · intro e_71_f c_71_f
                  refine e_iconst (v := 2) dX8_partsOf_74 (by decide) ?_
                  refine e_goto (tgt := 119) dX8_partsOf_75 (by decide) ?_
                  refine e_iret dX8_partsOf_119 (mret_i _) ?_
                  unfold mP at hR; first | exact hR | ((repeat' (split at hR)) <;> first | exact hR | (exfalso; omega))
              · intro e_57_f c_57_f
                refine e_iload_n (i := 1) dX8_partsOf_60 rfl rfl ?_
                refine b_if_eq (X := g.toInt) (tgt := 68) rfl dX8_partsOf_61 (by decide) ?_ ?_
                · intro e_61_t c_61_t
                  refine e_iconst (v := 0) dX8_partsOf_68 (by decide) ?_
                  refine e_istore_n (i := 3) (ls2 := [some (.inl x), some (.inl g), some (.inl 1), some (.inl 0)]) dX8_partsOf_69 rfl (Nat.le_of_ble_eq_true rfl) rfl ?_
                  refine e_iload_n (i := 2) dX8_partsOf_70 rfl rfl ?_
                  refine b_if_eq (X := 1) (tgt := 78) (by decide) dX8_partsOf_71 (by decide) ?_ ?_
                  · intro e_71_t c_71_t
                    exfalso; omega
                  · intro e_71_f c_71_f
                    refine e_iconst (v := 2) dX8_partsOf_74 (by decide) ?_
                    refine e_goto (tgt := 119) dX8_partsOf_75 (by decide) ?_
                    refine e_iret dX8_partsOf_119 (mret_i _) ?_
                    unfold mP at hR; first | exact hR | ((repeat' (split at hR)) <;> first | exact hR | (exfalso; omega))
                · intro e_61_f c_61_f
                  refine e_iconst (v := 1) dX8_partsOf_64 (by decide) ?_
                  refine e_goto (tgt := 69) dX8_partsOf_65 (by decide) ?_
                  refine e_istore_n (i := 3) (ls2 := [some (.inl x), some (.inl g), some (.inl 1), some (.inl 1)]) dX8_partsOf_69 rfl (Nat.le_of_ble_eq_true rfl) rfl ?_
                  refine e_iload_n (i := 2) dX8_partsOf_70 rfl rfl ?_
                  refine b_if_eq (X := 1) (tgt := 78) (by decide) dX8_partsOf_71 (by decide) ?_ ?_
                  · intro e_71_t c_71_t
                    exfalso; omega
                  · intro e_71_f c_71_f
                    refine e_iconst (v := 2) dX8_partsOf_74 (by decide) ?_
                    refine e_goto (tgt := 119) dX8_partsOf_75 (by decide) ?_
                    refine e_iret dX8_partsOf_119 (mret_i _) ?_
                    unfold mP at hR; first | exact hR | ((repeat' (split at hR)) <;> first | exact hR | (exfalso; omega))
    · intro e_9_f c_9_f
      refine e_iload_n (i := 0) dX8_partsOf_12 rfl rfl ?_
      refine e_bipush (v := 42) dX8_partsOf_13 (by decide) ?_
      refine b_icmp_eq (X := x.toInt) (Y := 42) (tgt := 24) rfl (by decide) dX8_partsOf_15 (by decide) ?_ ?_
      · intro e_15_t c_15_t
        refine e_iconst (v := 1) dX8_partsOf_24 (by decide) ?_
        refine e_goto (tgt := 29) dX8_partsOf_25 (by decide) ?_
        refine e_istore_n (i := 2) (ls2 := [some (.inl x), some (.inl g), some (.inl 1), none]) dX8_partsOf_29 rfl (Nat.le_of_ble_eq_true rfl) rfl ?_
        refine e_iload_n (i := 0) dX8_partsOf_30 rfl rfl ?_
        refine e_bipush (v := 112) dX8_partsOf_31 (by decide) ?_
        refine b_icmp_eq (X := x.toInt) (Y := 112) (tgt := 64) rfl (by decide) dX8_partsOf_33 (by decide) ?_ ?_
        · intro e_33_t c_33_t
          refine e_iconst (v := 1) dX8_partsOf_64 (by decide) ?_
          refine e_goto (tgt := 69) dX8_partsOf_65 (by decide) ?_
          refine e_istore_n (i := 3) (ls2 := [some (.inl x), some (.inl g), some (.inl 1), some (.inl 1)]) dX8_partsOf_69 rfl (Nat.le_of_ble_eq_true rfl) rfl ?_
          refine e_iload_n (i := 2) dX8_partsOf_70 rfl rfl ?_
          refine b_if_eq (X := 1) (tgt := 78) (by decide) dX8_partsOf_71 (by decide) ?_ ?_
          · intro e_71_t c_71_t
            exfalso; omega
          · intro e_71_f c_71_f
            refine e_iconst (v := 2) dX8_partsOf_74 (by decide) ?_
            refine e_goto (tgt := 119) dX8_partsOf_75 (by decide) ?_
            refine e_iret dX8_partsOf_119 (mret_i _) ?_
            unfold mP at hR; first | exact hR | ((repeat' (split at hR)) <;> first | exact hR | (exfalso; omega))
        · intro e_33_f c_33_f
          refine e_iload_n (i := 0) dX8_partsOf_36 rfl rfl ?_
          refine e_bipush (v := 113) dX8_partsOf_37 (by decide) ?_
          refine b_icmp_eq (X := x.toInt) (Y := 113) (tgt := 64) rfl (by decide) dX8_partsOf_39 (by decide) ?_ ?_
          · intro e_39_t c_39_t
            refine e_iconst (v := 1) dX8_partsOf_64 (by decide) ?_
            refine e_goto (tgt := 69) dX8_partsOf_65 (by decide) ?_
            refine e_istore_n (i := 3) (ls2 := [some (.inl x), some (.inl g), some (.inl 1), some (.inl 1)]) dX8_partsOf_69 rfl (Nat.le_of_ble_eq_true rfl) rfl ?_
            refine e_iload_n (i := 2) dX8_partsOf_70 rfl rfl ?_
            refine b_if_eq (X := 1) (tgt := 78) (by decide) dX8_partsOf_71 (by decide) ?_ ?_
            · intro e_71_t c_71_t
              exfalso; omega
            · intro e_71_f c_71_f
              refine e_iconst (v := 2) dX8_partsOf_74 (by decide) ?_
              refine e_goto (tgt := 119) dX8_partsOf_75 (by decide) ?_
              refine e_iret dX8_partsOf_119 (mret_i _) ?_
              unfold mP at hR; first | exact hR | ((repeat' (split at hR)) <;> first | exact hR | (exfalso; omega))
          · intro e_39_f c_39_f
            refine e_iload_n (i := 0) dX8_partsOf_42 rfl rfl ?_
            refine e_bipush (v := 114) dX8_partsOf_43 (by decide) ?_
            refine b_icmp_eq (X := x.toInt) (Y := 114) (tgt := 64) rfl (by decide) dX8_partsOf_45 (by decide) ?_ ?_
            · intro e_45_t c_45_t
              refine e_iconst (v := 1) dX8_partsOf_64 (by decide) ?_
              refine e_goto (tgt := 69) dX8_partsOf_65 (by decide) ?_
              refine e_istore_n (i := 3) (ls2 := [some (.inl x), some (.inl g), some (.inl 1), some (.inl 1)]) dX8_partsOf_69 rfl (Nat.le_of_ble_eq_true rfl) rfl ?_
              refine e_iload_n (i := 2) dX8_partsOf_70 rfl rfl ?_
              refine b_if_eq (X := 1) (tgt := 78) (by decide) dX8_partsOf_71 (by decide) ?_ ?_
              · intro e_71_t c_71_t
                exfalso; omega
              · intro e_71_f c_71_f
                refine e_iconst (v := 2) dX8_partsOf_74 (by decide) ?_
                refine e_goto (tgt := 119) dX8_partsOf_75 (by decide) ?_
                refine e_iret dX8_partsOf_119 (mret_i _) ?_
                unfold mP at hR; first | exact hR | ((repeat' (split at hR)) <;> first | exact hR | (exfalso; omega))
            · intro e_45_f c_45_f
              refine e_iload_n (i := 0) dX8_partsOf_48 rfl rfl ?_
              refine e_bipush (v := 64) dX8_partsOf_49 (by decide) ?_
              refine b_icmp_eq (X := x.toInt) (Y := 64) (tgt := 64) rfl (by decide) dX8_partsOf_51 (by decide) ?_ ?_
              · intro e_51_t c_51_t
                refine e_iconst (v := 1) dX8_partsOf_64 (by decide) ?_
                refine e_goto (tgt := 69) dX8_partsOf_65 (by decide) ?_
                refine e_istore_n (i := 3) (ls2 := [some (.inl x), some (.inl g), some (.inl 1), some (.inl 1)]) dX8_partsOf_69 rfl (Nat.le_of_ble_eq_true rfl) rfl ?_
                refine e_iload_n (i := 2) dX8_partsOf_70 rfl rfl ?_
                refine b_if_eq (X := 1) (tgt := 78) (by decide) dX8_partsOf_71 (by decide) ?_ ?_
                · intro e_71_t c_71_t
                  exfalso; omega
                · intro e_71_f c_71_f
                  refine e_iconst (v := 2) dX8_partsOf_74 (by decide) ?_
                  refine e_goto (tgt := 119) dX8_partsOf_75 (by decide) ?_
                  refine e_iret dX8_partsOf_119 (mret_i _) ?_
                  unfold mP at hR; first | exact hR | ((repeat' (split at hR)) <;> first | exact hR | (exfalso; omega))
              · intro e_51_f c_51_f
                refine e_iload_n (i := 0) dX8_partsOf_54 rfl rfl ?_
                refine e_bipush (v := 107) dX8_partsOf_55 (by decide) ?_
                refine b_icmp_ne (X := x.toInt) (Y := 107) (tgt := 68) rfl (by decide) dX8_partsOf_57 (by decide) ?_ ?_
                · intro e_57_t c_57_t
                  refine e_iconst (v := 0) dX8_partsOf_68 (by decide) ?_
                  refine e_istore_n (i := 3) (ls2 := [some (.inl x), some (.inl g), some (.inl 1), some (.inl 0)]) dX8_partsOf_69 rfl (Nat.le_of_ble_eq_true rfl) rfl ?_
                  refine e_iload_n (i := 2) dX8_partsOf_70 rfl rfl ?_
                  refine b_if_eq (X := 1) (tgt := 78) (by decide) dX8_partsOf_71 (by decide) ?_ ?_
                  · intro e_71_t c_71_t
                    exfalso; omega
                  · intro e_71_f c_71_f
                    refine e_iconst (v := 2) dX8_partsOf_74 (by decide) ?_
                    refine e_goto (tgt := 119) dX8_partsOf_75 (by decide) ?_
                    refine e_iret dX8_partsOf_119 (mret_i _) ?_
                    unfold mP at hR; first | exact hR | ((repeat' (split at hR)) <;> first | exact hR | (exfalso; omega))
                · intro e_57_f c_57_f
                  refine e_iload_n (i := 1) dX8_partsOf_60 rfl rfl ?_
                  refine b_if_eq (X := g.toInt) (tgt := 68) rfl dX8_partsOf_61 (by decide) ?_ ?_
                  · intro e_61_t c_61_t
                    refine e_iconst (v := 0) dX8_partsOf_68 (by decide) ?_
                    refine e_istore_n (i := 3) (ls2 := [some (.inl x), some (.inl g), some (.inl 1), some (.inl 0)]) dX8_partsOf_69 rfl (Nat.le_of_ble_eq_true rfl) rfl ?_
                    refine e_iload_n (i := 2) dX8_partsOf_70 rfl rfl ?_
                    refine b_if_eq (X := 1) (tgt := 78) (by decide) dX8_partsOf_71 (by decide) ?_ ?_
                    · intro e_71_t c_71_t
                      exfalso; omega
                    · intro e_71_f c_71_f
                      refine e_iconst (v := 2) dX8_partsOf_74 (by decide) ?_
                      refine e_goto (tgt := 119) dX8_partsOf_75 (by decide) ?_
                      refine e_iret dX8_partsOf_119 (mret_i _) ?_
                      unfold mP at hR; first | exact hR | ((repeat' (split at hR)) <;> first | exact hR | (exfalso; omega))
                  · intro e_61_f c_61_f
                    refine e_iconst (v := 1) dX8_partsOf_64 (by decide) ?_
                    refine e_goto (tgt := 69) dX8_partsOf_65 (by decide) ?_
                    refine e_istore_n (i := 3) (ls2 := [some (.inl x), some (.inl g), some (.inl 1), some (.inl 1)]) dX8_partsOf_69 rfl (Nat.le_of_ble_eq_true rfl) rfl ?_
                    refine e_iload_n (i := 2) dX8_partsOf_70 rfl rfl ?_
                    refine b_if_eq (X := 1) (tgt := 78) (by decide) dX8_partsOf_71 (by decide) ?_ ?_
                    · intro e_71_t c_71_t
                      exfalso; omega
                    · intro e_71_f c_71_f
                      refine e_iconst (v := 2) dX8_partsOf_74 (by decide) ?_
                      refine e_goto (tgt := 119) dX8_partsOf_75 (by decide) ?_
                      refine e_iret dX8_partsOf_119 (mret_i _) ?_
                      unfold mP at hR; first | exact hR | ((repeat' (split at hR)) <;> first | exact hR | (exfalso; omega))
      · intro e_15_f c_15_f
        refine e_iload_n (i := 0) dX8_partsOf_18 rfl rfl ?_
        refine e_bipush (v := 109) dX8_partsOf_19 (by decide) ?_
        refine b_icmp_ne (X := x.toInt) (Y := 109) (tgt := 28) rfl (by decide) dX8_partsOf_21 (by decide) ?_ ?_
        · intro e_21_t c_21_t
          refine e_iconst (v := 0) dX8_partsOf_28 (by decide) ?_
          refine e_istore_n (i := 2) (ls2 := [some (.inl x), some (.inl g), some (.inl 0), none]) dX8_partsOf_29 rfl (Nat.le_of_ble_eq_true rfl) rfl ?_
          refine e_iload_n (i := 0) dX8_partsOf_30 rfl rfl ?_
          refine e_bipush (v := 112) dX8_partsOf_31 (by decide) ?_
          refine b_icmp_eq (X := x.toInt) (Y := 112) (tgt := 64) rfl (by decide) dX8_partsOf_33 (by decide) ?_ ?_
          · intro e_33_t c_33_t
            refine e_iconst (v := 1) dX8_partsOf_64 (by decide) ?_
            refine e_goto (tgt := 69) dX8_partsOf_65 (by decide) ?_
            refine e_istore_n (i := 3) (ls2 := [some (.inl x), some (.inl g), some (.inl 0), some (.inl 1)]) dX8_partsOf_69 rfl (Nat.le_of_ble_eq_true rfl) rfl ?_
            refine e_iload_n (i := 2) dX8_partsOf_70 rfl rfl ?_
            refine b_if_eq (X := 0) (tgt := 78) (by decide) dX8_partsOf_71 (by decide) ?_ ?_
            · intro e_71_t c_71_t
              refine e_iload_n (i := 0) dX8_partsOf_78 rfl rfl ?_
              refine e_bipush (v := 63) dX8_partsOf_79 (by decide) ?_
              refine b_icmp_ne (X := x.toInt) (Y := 63) (tgt := 88) rfl (by decide) dX8_partsOf_81 (by decide) ?_ ?_
              · intro e_81_t c_81_t
                refine e_iload_n (i := 3) dX8_partsOf_88 rfl rfl ?_
                refine b_if_eq (X := 1) (tgt := 96) (by decide) dX8_partsOf_89 (by decide) ?_ ?_
                · intro e_89_t c_89_t
                  exfalso; omega
                · intro e_89_f c_89_f
                  refine e_iconst (v := 1) dX8_partsOf_92 (by decide) ?_
                  refine e_goto (tgt := 119) dX8_partsOf_93 (by decide) ?_
                  refine e_iret dX8_partsOf_119 (mret_i _) ?_
                  unfold mP at hR; first | exact hR | ((repeat' (split at hR)) <;> first | exact hR | (exfalso; omega))
              · intro e_81_f c_81_f
                refine e_iconst (v := 3) dX8_partsOf_84 (by decide) ?_
                refine e_goto (tgt := 119) dX8_partsOf_85 (by decide) ?_
                refine e_iret dX8_partsOf_119 (mret_i _) ?_
                unfold mP at hR; first | exact hR | ((repeat' (split at hR)) <;> first | exact hR | (exfalso; omega))
            · intro e_71_f c_71_f
              exfalso; omega
          · intro e_33_f c_33_f
            refine e_iload_n (i := 0) dX8_partsOf_36 rfl rfl ?_
            refine e_bipush (v := 113) dX8_partsOf_37 (by decide) ?_
            refine b_icmp_eq (X := x.toInt) (Y := 113) (tgt := 64) rfl (by decide) dX8_partsOf_39 (by decide) ?_ ?_
            · intro e_39_t c_39_t
              refine e_iconst (v := 1) dX8_partsOf_64 (by decide) ?_
              refine e_goto (tgt := 69) dX8_partsOf_65 (by decide) ?_
              refine e_istore_n (i := 3) (ls2 := [some (.inl x), some (.inl g), some (.inl 0), some (.inl 1)]) dX8_partsOf_69 rfl (Nat.le_of_ble_eq_true rfl) rfl ?_
              refine e_iload_n (i := 2) dX8_partsOf_70 rfl rfl ?_
              refine b_if_eq (X := 0) (tgt := 78) (by decide) dX8_partsOf_71 (by decide) ?_ ?_
              · intro e_71_t c_71_t
                refine e_iload_n (i := 0) dX8_partsOf_78 rfl rfl ?_
                refine e_bipush (v := 63) dX8_partsOf_79 (by decide) ?_
                refine b_icmp_ne (X := x.toInt) (Y := 63) (tgt := 88) rfl (by decide) dX8_partsOf_81 (by decide) ?_ ?_
                · intro e_81_t c_81_t
                  refine e_iload_n (i := 3) dX8_partsOf_88 rfl rfl ?_
                  refine b_if_eq (X := 1) (tgt := 96) (by decide) dX8_partsOf_89 (by decide) ?_ ?_
                  · intro e_89_t c_89_t
                    exfalso; omega
                  · intro e_89_f c_89_f
                    refine e_iconst (v := 1) dX8_partsOf_92 (by decide) ?_
                    refine e_goto (tgt := 119) dX8_partsOf_93 (by decide) ?_
                    refine e_iret dX8_partsOf_119 (mret_i _) ?_
                    unfold mP at hR; first | exact hR | ((repeat' (split at hR)) <;> first | exact hR | (exfalso; omega))
                · intro e_81_f c_81_f
                  refine e_iconst (v := 3) dX8_partsOf_84 (by decide) ?_
                  refine e_goto (tgt := 119) dX8_partsOf_85 (by decide) ?_
                  refine e_iret dX8_partsOf_119 (mret_i _) ?_
                  unfold mP at hR; first | exact hR | ((repeat' (split at hR)) <;> first | exact hR | (exfalso; omega))
              · intro e_71_f c_71_f
                exfalso; omega
            · intro e_39_f c_39_f
              refine e_iload_n (i := 0) dX8_partsOf_42 rfl rfl ?_
              refine e_bipush (v := 114) dX8_partsOf_43 (by decide) ?_
              refine b_icmp_eq (X := x.toInt) (Y := 114) (tgt := 64) rfl (by decide) dX8_partsOf_45 (by decide) ?_ ?_
              · intro e_45_t c_45_t
                refine e_iconst (v := 1) dX8_partsOf_64 (by decide) ?_
                refine e_goto (tgt := 69) dX8_partsOf_65 (by decide) ?_
                refine e_istore_n (i := 3) (ls2 := [some (.inl x), some (.inl g), some (.inl 0), some (.inl 1)]) dX8_partsOf_69 rfl (Nat.le_of_ble_eq_true rfl) rfl ?_
                refine e_iload_n (i := 2) dX8_partsOf_70 rfl rfl ?_
                refine b_if_eq (X := 0) (tgt := 78) (by decide) dX8_partsOf_71 (by decide) ?_ ?_
                · intro e_71_t c_71_t
                  refine e_iload_n (i := 0) dX8_partsOf_78 rfl rfl ?_
                  refine e_bipush (v := 63) dX8_partsOf_79 (by decide) ?_
                  refine b_icmp_ne (X := x.toInt) (Y := 63) (tgt := 88) rfl (by decide) dX8_partsOf_81 (by decide) ?_ ?_
                  · intro e_81_t c_81_t
                    refine e_iload_n (i := 3) dX8_partsOf_88 rfl rfl ?_
                    refine b_if_eq (X := 1) (tgt := 96) (by decide) dX8_partsOf_89 (by decide) ?_ ?_
                    · intro e_89_t c_89_t
                      exfalso; omega
                    · intro e_89_f c_89_f
                      refine e_iconst (v := 1) dX8_partsOf_92 (by decide) ?_
                      refine e_goto (tgt := 119) dX8_partsOf_93 (by decide) ?_
                      refine e_iret dX8_partsOf_119 (mret_i _) ?_
                      unfold mP at hR; first | exact hR | ((repeat' (split at hR)) <;> first | exact hR | (exfalso; omega))
                  · intro e_81_f c_81_f
                    refine e_iconst (v := 3) dX8_partsOf_84 (by decide) ?_
                    refine e_goto (tgt := 119) dX8_partsOf_85 (by decide) ?_
                    refine e_iret dX8_partsOf_119 (mret_i _) ?_
                    unfold mP at hR; first | exact hR | ((repeat' (split at hR)) <;> first | exact hR | (exfalso; omega))
                · intro e_71_f c_71_f
                  exfalso; omega
              · intro e_45_f c_45_f
                refine e_iload_n (i := 0) dX8_partsOf_48 rfl rfl ?_
                refine e_bipush (v := 64) dX8_partsOf_49 (by decide) ?_
                refine b_icmp_eq (X := x.toInt) (Y := 64) (tgt := 64) rfl (by decide) dX8_partsOf_51 (by decide) ?_ ?_
                · intro e_51_t c_51_t
                  refine e_iconst (v := 1) dX8_partsOf_64 (by decide) ?_
                  refine e_goto (tgt := 69) dX8_partsOf_65 (by decide) ?_
                  refine e_istore_n (i := 3) (ls2 := [some (.inl x), some (.inl g), some (.inl 0), some (.inl 1)]) dX8_partsOf_69 rfl (Nat.le_of_ble_eq_true rfl) rfl ?_
                  refine e_iload_n (i := 2) dX8_partsOf_70 rfl rfl ?_
                  refine b_if_eq (X := 0) (tgt := 78) (by decide) dX8_partsOf_71 (by decide) ?_ ?_
                  · intro e_71_t c_71_t
                    refine e_iload_n (i := 0) dX8_partsOf_78 rfl rfl ?_
                    refine e_bipush (v := 63) dX8_partsOf_79 (by decide) ?_
                    refine b_icmp_ne (X := x.toInt) (Y := 63) (tgt := 88) rfl (by decide) dX8_partsOf_81 (by decide) ?_ ?_
                    · intro e_81_t c_81_t
                      refine e_iload_n (i := 3) dX8_partsOf_88 rfl rfl ?_
                      refine b_if_eq (X := 1) (tgt := 96) (by decide) dX8_partsOf_89 (by decide) ?_ ?_
                      · intro e_89_t c_89_t
                        exfalso; omega
                      · intro e_89_f c_89_f
                        refine e_iconst (v := 1) dX8_partsOf_92 (by decide) ?_
                        refine e_goto (tgt := 119) dX8_partsOf_93 (by decide) ?_
                        refine e_iret dX8_partsOf_119 (mret_i _) ?_
                        unfold mP at hR; first | exact hR | ((repeat' (split at hR)) <;> first | exact hR | (exfalso; omega))
                    · intro e_81_f c_81_f
                      refine e_iconst (v := 3) dX8_partsOf_84 (by decide) ?_
                      refine e_goto (tgt := 119) dX8_partsOf_85 (by decide) ?_
                      refine e_iret dX8_partsOf_119 (mret_i _) ?_
                      unfold mP at hR; first | exact hR | ((repeat' (split at hR)) <;> first | exact hR | (exfalso; omega))
                  · intro e_71_f c_71_f
                    exfalso; omega
                · intro e_51_f c_51_f
                  refine e_iload_n (i := 0) dX8_partsOf_54 rfl rfl ?_
                  refine e_bipush (v := 107) dX8_partsOf_55 (by decide) ?_
                  refine b_icmp_ne (X := x.toInt) (Y := 107) (tgt := 68) rfl (by decide) dX8_partsOf_57 (by decide) ?_ ?_
                  · intro e_57_t c_57_t
                    refine e_iconst (v := 0) dX8_partsOf_68 (by decide) ?_
                    refine e_istore_n (i := 3) (ls2 := [some (.inl x), some (.inl g), some (.inl 0), some (.inl 0)]) dX8_partsOf_69 rfl (Nat.le_of_ble_eq_true rfl) rfl ?_
                    refine e_iload_n (i := 2) dX8_partsOf_70 rfl rfl ?_
                    refine b_if_eq (X := 0) (tgt := 78) (by decide) dX8_partsOf_71 (by decide) ?_ ?_
                    · intro e_71_t c_71_t
                      refine e_iload_n (i := 0) dX8_partsOf_78 rfl rfl ?_
                      refine e_bipush (v := 63) dX8_partsOf_79 (by decide) ?_
                      refine b_icmp_ne (X := x.toInt) (Y := 63) (tgt := 88) rfl (by decide) dX8_partsOf_81 (by decide) ?_ ?_
                      · intro e_81_t c_81_t
                        refine e_iload_n (i := 3) dX8_partsOf_88 rfl rfl ?_
                        refine b_if_eq (X := 0) (tgt := 96) (by decide) dX8_partsOf_89 (by decide) ?_ ?_
                        · intro e_89_t c_89_t
                          refine e_iload_n (i := 0) dX8_partsOf_96 rfl rfl ?_
                          refine e_bipush (v := 48) dX8_partsOf_97 (by decide) ?_
                          refine e_bipush (v := 55) dX8_partsOf_99 (by decide) ?_
                          refine e_invSi (As := [.inl x, .inl 48, .inl 55]) (v := 0) (h2 := h) dX8_partsOf_101 lk_X8_85 ys_X8_in rfl rfl rfl (Nat.le_of_ble_eq_true rfl) (Nat.le_of_ble_eq_true rfl) ⟨Nat.le_of_ble_eq_true rfl, Nat.le_of_ble_eq_true rfl⟩ (k_M_in (Y := 48) (Z := 55) l h x 48 55 rfl (by decide) (by decide) (if_neg hx)) ?_
                          refine b_if_ne (X := 0) (tgt := 113) (by decide) dX8_partsOf_104 (by decide) ?_ ?_
                          · intro e_104_t c_104_t
                            exfalso; omega
                          · intro e_104_f c_104_f
                            refine e_iload_n (i := 0) dX8_partsOf_107 rfl rfl ?_
                            refine e_bipush (v := 120) dX8_partsOf_108 (by decide) ?_
                            refine b_icmp_ne (X := x.toInt) (Y := 120) (tgt := 117) rfl (by decide) dX8_partsOf_110 (by decide) ?_ ?_
                            · intro e_110_t c_110_t
                              refine e_bipush (v := (-6)) dX8_partsOf_117 (by decide) ?_
                              refine e_iret dX8_partsOf_119 (mret_i _) ?_
                              unfold mP at hR; first | exact hR | ((repeat' (split at hR)) <;> first | exact hR | (exfalso; omega))
                            · intro e_110_f c_110_f
                              refine e_iconst (v := 0) dX8_partsOf_113 (by decide) ?_
                              refine e_goto (tgt := 119) dX8_partsOf_114 (by decide) ?_
                              refine e_iret dX8_partsOf_119 (mret_i _) ?_
                              unfold mP at hR; first | exact hR | ((repeat' (split at hR)) <;> first | exact hR | (exfalso; omega))
                        · intro e_89_f c_89_f
                          exfalso; omega
                      · intro e_81_f c_81_f
                        refine e_iconst (v := 3) dX8_partsOf_84 (by decide) ?_
                        refine e_goto (tgt := 119) dX8_partsOf_85 (by decide) ?_
                        refine e_iret dX8_partsOf_119 (mret_i _) ?_
                        unfold mP at hR; first | exact hR | ((repeat' (split at hR)) <;> first | exact hR | (exfalso; omega))
                    · intro e_71_f c_71_f
                      exfalso; omega
                  · intro e_57_f c_57_f
                    refine e_iload_n (i := 1) dX8_partsOf_60 rfl rfl ?_
                    refine b_if_eq (X := g.toInt) (tgt := 68) rfl dX8_partsOf_61 (by decide) ?_ ?_
                    · intro e_61_t c_61_t
                      refine e_iconst (v := 0) dX8_partsOf_68 (by decide) ?_
                      refine e_istore_n (i := 3) (ls2 := [some (.inl x), some (.inl g), some (.inl 0), some (.inl 0)]) dX8_partsOf_69 rfl (Nat.le_of_ble_eq_true rfl) rfl ?_
                      refine e_iload_n (i := 2) dX8_partsOf_70 rfl rfl ?_
                      refine b_if_eq (X := 0) (tgt := 78) (by decide) dX8_partsOf_71 (by decide) ?_ ?_
                      · intro e_71_t c_71_t
                        refine e_iload_n (i := 0) dX8_partsOf_78 rfl rfl ?_
                        refine e_bipush (v := 63) dX8_partsOf_79 (by decide) ?_
                        refine b_icmp_ne (X := x.toInt) (Y := 63) (tgt := 88) rfl (by decide) dX8_partsOf_81 (by decide) ?_ ?_
                        · intro e_81_t c_81_t
                          refine e_iload_n (i := 3) dX8_partsOf_88 rfl rfl ?_
                          refine b_if_eq (X := 0) (tgt := 96) (by decide) dX8_partsOf_89 (by decide) ?_ ?_
                          · intro e_89_t c_89_t
                            refine e_iload_n (i := 0) dX8_partsOf_96 rfl rfl ?_
                            refine e_bipush (v := 48) dX8_partsOf_97 (by decide) ?_
                            refine e_bipush (v := 55) dX8_partsOf_99 (by decide) ?_
                            refine e_invSi (As := [.inl x, .inl 48, .inl 55]) (v := 0) (h2 := h) dX8_partsOf_101 lk_X8_85 ys_X8_in rfl rfl rfl (Nat.le_of_ble_eq_true rfl) (Nat.le_of_ble_eq_true rfl) ⟨Nat.le_of_ble_eq_true rfl, Nat.le_of_ble_eq_true rfl⟩ (k_M_in (Y := 48) (Z := 55) l h x 48 55 rfl (by decide) (by decide) (if_neg hx)) ?_
                            refine b_if_ne (X := 0) (tgt := 113) (by decide) dX8_partsOf_104 (by decide) ?_ ?_
                            · intro e_104_t c_104_t
                              exfalso; omega
                            · intro e_104_f c_104_f
                              refine e_iload_n (i := 0) dX8_partsOf_107 rfl rfl ?_
                              refine e_bipush (v := 120) dX8_partsOf_108 (by decide) ?_
                              refine b_icmp_ne (X := x.toInt) (Y := 120) (tgt := 117) rfl (by decide) dX8_partsOf_110 (by decide) ?_ ?_
                              · intro e_110_t c_110_t
                                refine e_bipush (v := (-6)) dX8_partsOf_117 (by decide) ?_
                                refine e_iret dX8_partsOf_119 (mret_i _) ?_
                                unfold mP at hR; first | exact hR | ((repeat' (split at hR)) <;> first | exact hR | (exfalso; omega))
                              · intro e_110_f c_110_f
                                refine e_iconst (v := 0) dX8_partsOf_113 (by decide) ?_
                                refine e_goto (tgt := 119) dX8_partsOf_114 (by decide) ?_
                                refine e_iret dX8_partsOf_119 (mret_i _) ?_
                                unfold mP at hR; first | exact hR | ((repeat' (split at hR)) <;> first | exact hR | (exfalso; omega))
                          · intro e_89_f c_89_f
                            exfalso; omega
                        · intro e_81_f c_81_f
                          refine e_iconst (v := 3) dX8_partsOf_84 (by decide) ?_
                          refine e_goto (tgt := 119) dX8_partsOf_85 (by decide) ?_
                          refine e_iret dX8_partsOf_119 (mret_i _) ?_
                          unfold mP at hR; first | exact hR | ((repeat' (split at hR)) <;> first | exact hR | (exfalso; omega))
                      · intro e_71_f c_71_f
                        exfalso; omega
                    · intro e_61_f c_61_f
                      refine e_iconst (v := 1) dX8_partsOf_64 (by decide) ?_
                      refine e_goto (tgt := 69) dX8_partsOf_65 (by decide) ?_
                      refine e_istore_n (i := 3) (ls2 := [some (.inl x), some (.inl g), some (.inl 0), some (.inl 1)]) dX8_partsOf_69 rfl (Nat.le_of_ble_eq_true rfl) rfl ?_
                      refine e_iload_n (i := 2) dX8_partsOf_70 rfl rfl ?_
                      refine b_if_eq (X := 0) (tgt := 78) (by decide) dX8_partsOf_71 (by decide) ?_ ?_
                      · intro e_71_t c_71_t
                        refine e_iload_n (i := 0) dX8_partsOf_78 rfl rfl ?_
                        refine e_bipush (v := 63) dX8_partsOf_79 (by decide) ?_
                        refine b_icmp_ne (X := x.toInt) (Y := 63) (tgt := 88) rfl (by decide) dX8_partsOf_81 (by decide) ?_ ?_
                        · intro e_81_t c_81_t
                          refine e_iload_n (i := 3) dX8_partsOf_88 rfl rfl ?_
                          refine b_if_eq (X := 1) (tgt := 96) (by decide) dX8_partsOf_89 (by decide) ?_ ?_
                          · intro e_89_t c_89_t
                            exfalso; omega
                          · intro e_89_f c_89_f
                            refine e_iconst (v := 1) dX8_partsOf_92 (by decide) ?_
                            refine e_goto (tgt := 119) dX8_partsOf_93 (by decide) ?_
                            refine e_iret dX8_partsOf_119 (mret_i _) ?_
                            unfold mP at hR; first | exact hR | ((repeat' (split at hR)) <;> first | exact hR | (exfalso; omega))
                        · intro e_81_f c_81_f
                          refine e_iconst (v := 3) dX8_partsOf_84 (by decide) ?_
                          refine e_goto (tgt := 119) dX8_partsOf_85 (by decide) ?_
                          refine e_iret dX8_partsOf_119 (mret_i _) ?_
                          unfold mP at hR; first | exact hR | ((repeat' (split at hR)) <;> first | exact hR | (exfalso; omega))
                      · intro e_71_f c_71_f
                        exfalso; omega
        · intro e_21_f c_21_f
          refine e_iconst (v := 1) dX8_partsOf_24 (by decide) ?_
          refine e_goto (tgt := 29) dX8_partsOf_25 (by decide) ?_
          refine e_istore_n (i := 2) (ls2 := [some (.inl x), some (.inl g), some (.inl 1), none]) dX8_partsOf_29 rfl (Nat.le_of_ble_eq_true rfl) rfl ?_
          refine e_iload_n (i := 0) dX8_partsOf_30 rfl rfl ?_
          refine e_bipush (v := 112) dX8_partsOf_31 (by decide) ?_
          refine b_icmp_eq (X := x.toInt) (Y := 112) (tgt := 64) rfl (by decide) dX8_partsOf_33 (by decide) ?_ ?_
          · intro e_33_t c_33_t
            refine e_iconst (v := 1) dX8_partsOf_64 (by decide) ?_
            refine e_goto (tgt := 69) dX8_partsOf_65 (by decide) ?_
            refine e_istore_n (i := 3) (ls2 := [some (.inl x), some (.inl g), some (.inl 1), some (.inl 1)]) dX8_partsOf_69 rfl (Nat.le_of_ble_eq_true rfl) rfl ?_
            refine e_iload_n (i := 2) dX8_partsOf_70 rfl rfl ?_
            refine b_if_eq (X := 1) (tgt := 78) (by decide) dX8_partsOf_71 (by decide) ?_ ?_
            · intro e_71_t c_71_t
              exfalso; omega
            · intro e_71_f c_71_f
              refine e_iconst (v := 2) dX8_partsOf_74 (by decide) ?_
              refine e_goto (tgt := 119) dX8_partsOf_75 (by decide) ?_
              refine e_iret dX8_partsOf_119 (mret_i _) ?_
              unfold mP at hR; first | exact hR | ((repeat' (split at hR)) <;> first | exact hR | (exfalso; omega))
          · intro e_33_f c_33_f
            refine e_iload_n (i := 0) dX8_partsOf_36 rfl rfl ?_
            refine e_bipush (v := 113) dX8_partsOf_37 (by decide) ?_
            refine b_icmp_eq (X := x.toInt) (Y := 113) (tgt := 64) rfl (by decide) dX8_partsOf_39 (by decide) ?_ ?_
            · intro e_39_t c_39_t
              refine e_iconst (v := 1) dX8_partsOf_64 (by decide) ?_
              refine e_goto (tgt := 69) dX8_partsOf_65 (by decide) ?_
              refine e_istore_n (i := 3) (ls2 := [some (.inl x), some (.inl g), some (.inl 1), some (.inl 1)]) dX8_partsOf_69 rfl (Nat.le_of_ble_eq_true rfl) rfl ?_
              refine e_iload_n (i := 2) dX8_partsOf_70 rfl rfl ?_
              refine b_if_eq (X := 1) (tgt := 78) (by decide) dX8_partsOf_71 (by decide) ?_ ?_
              · intro e_71_t c_71_t
                exfalso; omega
              · intro e_71_f c_71_f
                refine e_iconst (v := 2) dX8_partsOf_74 (by decide) ?_
                refine e_goto (tgt := 119) dX8_partsOf_75 (by decide) ?_
                refine e_iret dX8_partsOf_119 (mret_i _) ?_
                unfold mP at hR; first | exact hR | ((repeat' (split at hR)) <;> first | exact hR | (exfalso; omega))
            · intro e_39_f c_39_f
              refine e_iload_n (i := 0) dX8_partsOf_42 rfl rfl ?_
              refine e_bipush (v := 114) dX8_partsOf_43 (by decide) ?_
              refine b_icmp_eq (X := x.toInt) (Y := 114) (tgt := 64) rfl (by decide) dX8_partsOf_45 (by decide) ?_ ?_
              · intro e_45_t c_45_t
                refine e_iconst (v := 1) dX8_partsOf_64 (by decide) ?_
                refine e_goto (tgt := 69) dX8_partsOf_65 (by decide) ?_
                refine e_istore_n (i := 3) (ls2 := [some (.inl x), some (.inl g), some (.inl 1), some (.inl 1)]) dX8_partsOf_69 rfl (Nat.le_of_ble_eq_true rfl) rfl ?_
                refine e_iload_n (i := 2) dX8_partsOf_70 rfl rfl ?_
                refine b_if_eq (X := 1) (tgt := 78) (by decide) dX8_partsOf_71 (by decide) ?_ ?_
                · intro e_71_t c_71_t
                  exfalso; omega
                · intro e_71_f c_71_f
                  refine e_iconst (v := 2) dX8_partsOf_74 (by decide) ?_
                  refine e_goto (tgt := 119) dX8_partsOf_75 (by decide) ?_
                  refine e_iret dX8_partsOf_119 (mret_i _) ?_
                  unfold mP at hR; first | exact hR | ((repeat' (split at hR)) <;> first | exact hR | (exfalso; omega))
              · intro e_45_f c_45_f
                refine e_iload_n (i := 0) dX8_partsOf_48 rfl rfl ?_
                refine e_bipush (v := 64) dX8_partsOf_49 (by decide) ?_
                refine b_icmp_eq (X := x.toInt) (Y := 64) (tgt := 64) rfl (by decide) dX8_partsOf_51 (by decide) ?_ ?_
                · intro e_51_t c_51_t
                  refine e_iconst (v := 1) dX8_partsOf_64 (by decide) ?_
                  refine e_goto (tgt := 69) dX8_partsOf_65 (by decide) ?_
                  refine e_istore_n (i := 3) (ls2 := [some (.inl x), some (.inl g), some (.inl 1), some (.inl 1)]) dX8_partsOf_69 rfl (Nat.le_of_ble_eq_true rfl) rfl ?_
                  refine e_iload_n (i := 2) dX8_partsOf_70 rfl rfl ?_
                  refine b_if_eq (X := 1) (tgt := 78) (by decide) dX8_partsOf_71 (by decide) ?_ ?_
                  · intro e_71_t c_71_t
                    exfalso; omega
                  · intro e_71_f c_71_f
                    refine e_iconst (v := 2) dX8_partsOf_74 (by decide) ?_
                    refine e_goto (tgt := 119) dX8_partsOf_75 (by decide) ?_
                    refine e_iret dX8_partsOf_119 (mret_i _) ?_
                    unfold mP at hR; first | exact hR | ((repeat' (split at hR)) <;> first | exact hR | (exfalso; omega))
                · intro e_51_f c_51_f
                  refine e_iload_n (i := 0) dX8_partsOf_54 rfl rfl ?_
                  refine e_bipush (v := 107) dX8_partsOf_55 (by decide) ?_
                  refine b_icmp_ne (X := x.toInt) (Y := 107) (tgt := 68) rfl (by decide) dX8_partsOf_57 (by decide) ?_ ?_
                  · intro e_57_t c_57_t
                    refine e_iconst (v := 0) dX8_partsOf_68 (by decide) ?_
                    refine e_istore_n (i := 3) (ls2 := [some (.inl x), some (.inl g), some (.inl 1), some (.inl 0)]) dX8_partsOf_69 rfl (Nat.le_of_ble_eq_true rfl) rfl ?_
                    refine e_iload_n (i := 2) dX8_partsOf_70 rfl rfl ?_
                    refine b_if_eq (X := 1) (tgt := 78) (by decide) dX8_partsOf_71 (by decide) ?_ ?_
                    · intro e_71_t c_71_t
                      exfalso; omega
                    · intro e_71_f c_71_f
                      refine e_iconst (v := 2) dX8_partsOf_74 (by decide) ?_
                      refine e_goto (tgt := 119) dX8_partsOf_75 (by decide) ?_
                      refine e_iret dX8_partsOf_119 (mret_i _) ?_
                      unfold mP at hR; first | exact hR | ((repeat' (split at hR)) <;> first | exact hR | (exfalso; omega))
                  · intro e_57_f c_57_f
                    refine e_iload_n (i := 1) dX8_partsOf_60 rfl rfl ?_
                    refine b_if_eq (X := g.toInt) (tgt := 68) rfl dX8_partsOf_61 (by decide) ?_ ?_
                    · intro e_61_t c_61_t
                      refine e_iconst (v := 0) dX8_partsOf_68 (by decide) ?_
                      refine e_istore_n (i := 3) (ls2 := [some (.inl x), some (.inl g), some (.inl 1), some (.inl 0)]) dX8_partsOf_69 rfl (Nat.le_of_ble_eq_true rfl) rfl ?_
                      refine e_iload_n (i := 2) dX8_partsOf_70 rfl rfl ?_
                      refine b_if_eq (X := 1) (tgt := 78) (by decide) dX8_partsOf_71 (by decide) ?_ ?_
                      · intro e_71_t c_71_t
                        exfalso; omega
                      · intro e_71_f c_71_f
                        refine e_iconst (v := 2) dX8_partsOf_74 (by decide) ?_
                        refine e_goto (tgt := 119) dX8_partsOf_75 (by decide) ?_
                        refine e_iret dX8_partsOf_119 (mret_i _) ?_
                        unfold mP at hR; first | exact hR | ((repeat' (split at hR)) <;> first | exact hR | (exfalso; omega))
                    · intro e_61_f c_61_f
                      refine e_iconst (v := 1) dX8_partsOf_64 (by decide) ?_
                      refine e_goto (tgt := 69) dX8_partsOf_65 (by decide) ?_
                      refine e_istore_n (i := 3) (ls2 := [some (.inl x), some (.inl g), some (.inl 1), some (.inl 1)]) dX8_partsOf_69 rfl (Nat.le_of_ble_eq_true rfl) rfl ?_
                      refine e_iload_n (i := 2) dX8_partsOf_70 rfl rfl ?_
                      refine b_if_eq (X := 1) (tgt := 78) (by decide) dX8_partsOf_71 (by decide) ?_ ?_
                      · intro e_71_t c_71_t
                        exfalso; omega
                      · intro e_71_f c_71_f
                        refine e_iconst (v := 2) dX8_partsOf_74 (by decide) ?_
                        refine e_goto (tgt := 119) dX8_partsOf_75 (by decide) ?_
                        refine e_iret dX8_partsOf_119 (mret_i _) ?_
                        unfold mP at hR; first | exact hR | ((repeat' (split at hR)) <;> first | exact hR | (exfalso; omega))
theorem k_M_partsOf (l : Launch) (h : mH) (x g : Int32) : mD l Sh0 iX8_partsOf [.inl x, .inl g] h (some (mP x.toInt g.toInt)) h := by
  by_cases hx : 48 ≤ x.toInt ∧ x.toInt ≤ 55
  · exact k_M_partsD l h x g hx
  · exact k_M_partsN l h x g hx
set_option maxHeartbeats 1000000 in
theorem k_P_sign (l : Launch) (h : mH) (i n : Nat) (hc : h 1 2 = nI n) (hi : i < n) (hn : n ≤ 40) : mD l Sh0 iX2_sign [.inr 1, .inl (nI i)] h (some (h 11 i)) h := by
  intro RT hR
  show mE l Sh0 none iX2_sign RT 0 [some (.inr 1), some (.inl (nI i))] [] h
  refine e_iload_n (i := 1) dX2_sign_0 rfl rfl ?_
  refine b_if_lt (X := ((i : Nat) : Int)) (tgt := 27) (nI_toInt (by omega)) dX2_sign_1 (by decide) ?_ ?_
  · intro c_1_t
    exfalso; omega
  · intro c_1_f
    refine e_iload_n (i := 1) dX2_sign_4 rfl rfl ?_
    refine e_aload_n (i := 0) dX2_sign_5 rfl rfl ?_
    refine e_getI (x := nI n) dX2_sign_6 fl_X2_18 sh_1 fj_1_2 hc ?_
    refine b_icmp_ge (X := ((i : Nat) : Int)) (Y := ((n : Nat) : Int)) (tgt := 27) (nI_toInt (by omega)) (nI_toInt (by omega)) dX2_sign_9 (by decide) ?_ ?_
    · intro c_9_t
      exfalso; omega
    · intro c_9_f
      refine e_iload_n (i := 1) dX2_sign_12 rfl rfl ?_
      refine e_bipush (v := 40) dX2_sign_13 (by decide) ?_
      refine b_icmp_ge (X := ((i : Nat) : Int)) (Y := 40) (tgt := 27) (nI_toInt (by omega)) (by decide) dX2_sign_15 (by decide) ?_ ?_
      · intro c_15_t
        exfalso; omega
      · intro c_15_f
        refine e_aload_n (i := 0) dX2_sign_18 rfl rfl ?_
        refine e_getR (r := 11) dX2_sign_19 fl_X2_9 sh_1 fj_1_0 ?_
        refine e_iload_n (i := 1) dX2_sign_22 rfl rfl ?_
        refine e_iald (x := h 11 i) dX2_sign_23 sh_11 (vin_ofX (X := ((i : Nat) : Int)) (nI_toInt (by omega)) (by omega) (by omega)) (by rw [nI_clamp (by omega)]) ?_
        refine e_goto (tgt := 28) dX2_sign_24 (by decide) ?_
        refine e_iret dX2_sign_28 (mret_i _) ?_
        exact hR
def cCan (x d g : Int) : Int32 := if aOf x = 0 ∨ (0 < aOf x ∧ d < 9 ∧ (g ≠ 0 ∨ x ≠ 107)) then 1 else 0
set_option maxHeartbeats 1000000 in
theorem k_P_canStand (l : Launch) (h : mH) (x d g : Int32) : mD l Sh0 iX2_canStand [.inl x, .inl d, .inl g] h (some (cCan x.toInt d.toInt g.toInt)) h := by
  intro RT hR
  show mE l Sh0 none iX2_canStand RT 0 [some (.inl x), some (.inl d), some (.inl g), none] [] h
  refine e_iload_n (i := 0) dX2_canStand_0 rfl rfl ?_
  refine e_invSi (As := [.inl x]) (v := aI x.toInt) (h2 := h) dX2_canStand_1 lk_X2_30 ys_X7_textsOf rfl rfl rfl (Nat.le_of_ble_eq_true rfl) (Nat.le_of_ble_eq_true rfl) ⟨Nat.le_of_ble_eq_true rfl, Nat.le_of_ble_eq_true rfl⟩ (k_textsOf l h x) ?_
  refine e_istore_n (i := 3) (ls2 := [some (.inl x), some (.inl d), some (.inl g), some (.inl (aI x.toInt))]) dX2_canStand_4 rfl (Nat.le_of_ble_eq_true rfl) rfl ?_
  refine e_iload_n (i := 3) dX2_canStand_5 rfl rfl ?_
  refine b_if_eq (X := aOf x.toInt) (tgt := 29) (aI_toInt _) dX2_canStand_6 (by decide) ?_ ?_
  · intro e_6_t c_6_t
    refine e_iconst (v := 1) dX2_canStand_29 (by decide) ?_
    refine e_goto (tgt := 34) dX2_canStand_30 (by decide) ?_
    refine e_iret dX2_canStand_34 (mret_z (by first | decide | (simp only []; split <;> decide))) ?_
    unfold cCan at hR; first | exact hR | ((repeat' (split at hR)) <;> first | exact hR | (exfalso; omega))
  · intro e_6_f c_6_f
    refine e_iload_n (i := 3) dX2_canStand_9 rfl rfl ?_
    refine b_if_le (X := aOf x.toInt) (tgt := 33) (aI_toInt _) dX2_canStand_10 (by decide) ?_ ?_
    · intro c_10_t
      refine e_iconst (v := 0) dX2_canStand_33 (by decide) ?_
      refine e_iret dX2_canStand_34 (mret_z (by first | decide | (simp only []; split <;> decide))) ?_
      unfold cCan at hR; first | exact hR | ((repeat' (split at hR)) <;> first | exact hR | (exfalso; omega))
    · intro c_10_f
      refine e_iload_n (i := 1) dX2_canStand_13 rfl rfl ?_
      refine e_bipush (v := 9) dX2_canStand_14 (by decide) ?_
      refine b_icmp_ge (X := d.toInt) (Y := 9) (tgt := 33) rfl (by decide) dX2_canStand_16 (by decide) ?_ ?_
      · intro c_16_t
        refine e_iconst (v := 0) dX2_canStand_33 (by decide) ?_
        refine e_iret dX2_canStand_34 (mret_z (by first | decide | (simp only []; split <;> decide))) ?_
        unfold cCan at hR; first | exact hR | ((repeat' (split at hR)) <;> first | exact hR | (exfalso; omega))
      · intro c_16_f
        refine e_iload_n (i := 2) dX2_canStand_19 rfl rfl ?_
        refine b_if_ne (X := g.toInt) (tgt := 29) rfl dX2_canStand_20 (by decide) ?_ ?_
        · intro e_20_t c_20_t
          refine e_iconst (v := 1) dX2_canStand_29 (by decide) ?_
          refine e_goto (tgt := 34) dX2_canStand_30 (by decide) ?_
          refine e_iret dX2_canStand_34 (mret_z (by first | decide | (simp only []; split <;> decide))) ?_
          unfold cCan at hR; first | exact hR | ((repeat' (split at hR)) <;> first | exact hR | (exfalso; omega))
        · intro e_20_f c_20_f
          refine e_iload_n (i := 0) dX2_canStand_23 rfl rfl ?_
          refine e_bipush (v := 107) dX2_canStand_24 (by decide) ?_
          refine b_icmp_eq (X := x.toInt) (Y := 107) (tgt := 33) rfl (by decide) dX2_canStand_26 (by decide) ?_ ?_
          · intro e_26_t c_26_t
            refine e_iconst (v := 0) dX2_canStand_33 (by decide) ?_
            refine e_iret dX2_canStand_34 (mret_z (by first | decide | (simp only []; split <;> decide))) ?_
            unfold cCan at hR; first | exact hR | ((repeat' (split at hR)) <;> first | exact hR | (exfalso; omega))
          · intro e_26_f c_26_f
            refine e_iconst (v := 1) dX2_canStand_29 (by decide) ?_
            refine e_goto (tgt := 34) dX2_canStand_30 (by decide) ?_
            refine e_iret dX2_canStand_34 (mret_z (by first | decide | (simp only []; split <;> decide))) ?_
            unfold cCan at hR; first | exact hR | ((repeat' (split at hR)) <;> first | exact hR | (exfalso; omega))
/-- the greatest depth up to d (below m) where a text is still to come; below 0 none -/
def dNx (f : Nat → Int32) : Nat → Int32
  | 0 => -1
  | m + 1 => if 0 < (f m).toInt then nI m else dNx f m
set_option maxHeartbeats 2000000 in
theorem lp_P_depth (l : Launch) (h : mH) (y : Option mV) (RT : Option Int32 → mH → Prop) : ∀ m : Nat, m ≤ 10 → RT (some (dNx (h 12) m)) h → mE l Sh0 none iX2_depthOfNext RT 2 [some (.inr 1), y, some (.inl (dn m))] [] h := by
  intro m
  induction m with
  | zero =>
    intro hm hR
    rw [dn_0]
    refine e_iload_n (i := 2) dX2_depthOfNext_2 rfl rfl ?_
    refine b_if_lt (X := (-1)) (tgt := 29) (by decide) dX2_depthOfNext_3 (by decide) ?_ ?_
    · intro c_3_t
      refine e_iconst (v := (-1)) dX2_depthOfNext_29 (by decide) ?_
      refine e_iret dX2_depthOfNext_30 (mret_i _) ?_
      exact hR
    · intro c_3_f
      exfalso; omega
  | succ m ih =>
    intro hm hR
    rw [dn_s]
    by_cases hz : 0 < (h 12 m).toInt
    · have e : dNx (h 12) (m + 1) = nI m := if_pos hz
      rw [e] at hR
      refine e_iload_n (i := 2) dX2_depthOfNext_2 rfl rfl ?_
      refine b_if_lt (X := ((m : Nat) : Int)) (tgt := 29) (nI_toInt (by omega)) dX2_depthOfNext_3 (by decide) ?_ ?_
      · intro c_3_t
        exfalso; omega
      · intro c_3_f
        refine e_iload_n (i := 2) dX2_depthOfNext_6 rfl rfl ?_
        refine e_bipush (v := 9) dX2_depthOfNext_7 (by decide) ?_
        refine b_icmp_gt (X := ((m : Nat) : Int)) (Y := 9) (tgt := 23) (nI_toInt (by omega)) (by decide) dX2_depthOfNext_9 (by decide) ?_ ?_
        · intro c_9_t
          exfalso; omega
        · intro c_9_f
          refine e_aload_n (i := 0) dX2_depthOfNext_12 rfl rfl ?_
          refine e_getR (r := 12) dX2_depthOfNext_13 fl_X2_15 sh_1 fj_1_1 ?_
          refine e_iload_n (i := 2) dX2_depthOfNext_16 rfl rfl ?_
          refine e_iald (x := h 12 m) dX2_depthOfNext_17 sh_12 (vin_ofX (X := ((m : Nat) : Int)) (nI_toInt (by omega)) (by omega) (by omega)) (by rw [nI_clamp (by omega)]) ?_
          refine b_if_le (X := (h 12 m).toInt) (tgt := 23) rfl dX2_depthOfNext_18 (by decide) ?_ ?_
          · intro c_18_t
            exfalso; omega
          · intro c_18_f
            refine e_iload_n (i := 2) dX2_depthOfNext_21 rfl rfl ?_
            refine e_iret dX2_depthOfNext_22 (mret_i _) ?_
            exact hR
    · have e : dNx (h 12) (m + 1) = dNx (h 12) m := if_neg hz
      rw [e] at hR
      refine e_iload_n (i := 2) dX2_depthOfNext_2 rfl rfl ?_
      refine b_if_lt (X := ((m : Nat) : Int)) (tgt := 29) (nI_toInt (by omega)) dX2_depthOfNext_3 (by decide) ?_ ?_
      · intro c_3_t
        exfalso; omega
      · intro c_3_f
        refine e_iload_n (i := 2) dX2_depthOfNext_6 rfl rfl ?_
        refine e_bipush (v := 9) dX2_depthOfNext_7 (by decide) ?_
        refine b_icmp_gt (X := ((m : Nat) : Int)) (Y := 9) (tgt := 23) (nI_toInt (by omega)) (by decide) dX2_depthOfNext_9 (by decide) ?_ ?_
        · intro c_9_t
          exfalso; omega
        · intro c_9_f
          refine e_aload_n (i := 0) dX2_depthOfNext_12 rfl rfl ?_
          refine e_getR (r := 12) dX2_depthOfNext_13 fl_X2_15 sh_1 fj_1_1 ?_
          refine e_iload_n (i := 2) dX2_depthOfNext_16 rfl rfl ?_
          refine e_iald (x := h 12 m) dX2_depthOfNext_17 sh_12 (vin_ofX (X := ((m : Nat) : Int)) (nI_toInt (by omega)) (by omega) (by omega)) (by rw [nI_clamp (by omega)]) ?_
          refine b_if_le (X := (h 12 m).toInt) (tgt := 23) rfl dX2_depthOfNext_18 (by decide) ?_ ?_
          · intro c_18_t
            refine e_iinc (v := dn m) (ls2 := [some (.inr 1), y, some (.inl (dn m))]) dX2_depthOfNext_23 rfl (dn_dec _) (Nat.le_of_ble_eq_true rfl) rfl ?_
            refine e_goto (tgt := 2) dX2_depthOfNext_26 (by decide) ?_
            exact ih (by omega) hR
          · intro c_18_f
            exfalso; omega
