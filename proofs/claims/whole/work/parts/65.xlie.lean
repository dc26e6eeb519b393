theorem d_QC_lie_0 : decode b_QC_lie 0 = .ok (.iload_n 1, 1) := by decide +kernel
theorem d_QC_lie_1 : decode b_QC_lie 1 = .ok (.invokestatic 68, 3) := by decide +kernel
theorem d_QC_lie_4 : decode b_QC_lie 4 = .ok (.ifCond .eq 32, 3) := by decide +kernel
theorem d_QC_lie_7 : decode b_QC_lie 7 = .ok (.aload_n 0, 1) := by decide +kernel
theorem d_QC_lie_8 : decode b_QC_lie 8 = .ok (.getfield 18, 3) := by decide +kernel
theorem d_QC_lie_11 : decode b_QC_lie 11 = .ok (.iload_n 3, 1) := by decide +kernel
theorem d_QC_lie_12 : decode b_QC_lie 12 = .ok (.invokevirtual 170, 3) := by decide +kernel
theorem d_QC_lie_15 : decode b_QC_lie 15 = .ok (.ifCond .eq 21, 3) := by decide +kernel
theorem d_QC_lie_18 : decode b_QC_lie 18 = .ok (.iload 4, 2) := by decide +kernel
theorem d_QC_lie_20 : decode b_QC_lie 20 = .ok (.iconst (-1), 1) := by decide +kernel
theorem d_QC_lie_21 : decode b_QC_lie 21 = .ok (.if_icmp .eq 25, 3) := by decide +kernel
theorem d_QC_lie_24 : decode b_QC_lie 24 = .ok (.aload_n 0, 1) := by decide +kernel
theorem d_QC_lie_25 : decode b_QC_lie 25 = .ok (.getfield 25, 3) := by decide +kernel
theorem d_QC_lie_28 : decode b_QC_lie 28 = .ok (.iload 4, 2) := by decide +kernel
theorem d_QC_lie_30 : decode b_QC_lie 30 = .ok (.invokevirtual 71, 3) := by decide +kernel
theorem d_QC_lie_33 : decode b_QC_lie 33 = .ok (.ifCond .ne 13, 3) := by decide +kernel
theorem d_QC_lie_36 : decode b_QC_lie 36 = .ok (.new 46, 3) := by decide +kernel
theorem d_QC_lie_39 : decode b_QC_lie 39 = .ok (.dup, 1) := by decide +kernel
theorem d_QC_lie_40 : decode b_QC_lie 40 = .ok (.ldc 171, 2) := by decide +kernel
theorem d_QC_lie_42 : decode b_QC_lie 42 = .ok (.invokespecial 50, 3) := by decide +kernel
theorem d_QC_lie_45 : decode b_QC_lie 45 = .ok (.athrow, 1) := by decide +kernel
theorem d_QC_lie_46 : decode b_QC_lie 46 = .ok (.iload_n 2, 1) := by decide +kernel
theorem d_QC_lie_47 : decode b_QC_lie 47 = .ok (.iconst 1, 1) := by decide +kernel
theorem d_QC_lie_48 : decode b_QC_lie 48 = .ok (.if_icmp .lt 17, 3) := by decide +kernel
theorem d_QC_lie_51 : decode b_QC_lie 51 = .ok (.iload_n 2, 1) := by decide +kernel
theorem d_QC_lie_52 : decode b_QC_lie 52 = .ok (.bipush 60, 2) := by decide +kernel
theorem d_QC_lie_54 : decode b_QC_lie 54 = .ok (.if_icmp .gt 11, 3) := by decide +kernel
theorem d_QC_lie_57 : decode b_QC_lie 57 = .ok (.iload_n 2, 1) := by decide +kernel
theorem d_QC_lie_58 : decode b_QC_lie 58 = .ok (.invokestatic 173, 3) := by decide +kernel
theorem d_QC_lie_61 : decode b_QC_lie 61 = .ok (.iconst 3, 1) := by decide +kernel
theorem d_QC_lie_62 : decode b_QC_lie 62 = .ok (.if_icmp .eq 13, 3) := by decide +kernel
theorem d_QC_lie_65 : decode b_QC_lie 65 = .ok (.new 46, 3) := by decide +kernel
theorem d_QC_lie_68 : decode b_QC_lie 68 = .ok (.dup, 1) := by decide +kernel
theorem d_QC_lie_69 : decode b_QC_lie 69 = .ok (.ldc 177, 2) := by decide +kernel
theorem d_QC_lie_71 : decode b_QC_lie 71 = .ok (.invokespecial 50, 3) := by decide +kernel
theorem d_QC_lie_74 : decode b_QC_lie 74 = .ok (.athrow, 1) := by decide +kernel
theorem d_QC_lie_75 : decode b_QC_lie 75 = .ok (.aload_n 0, 1) := by decide +kernel
theorem d_QC_lie_76 : decode b_QC_lie 76 = .ok (.getfield 11, 3) := by decide +kernel
theorem d_QC_lie_79 : decode b_QC_lie 79 = .ok (.iconst 3, 1) := by decide +kernel
theorem d_QC_lie_80 : decode b_QC_lie 80 = .ok (.aaload, 1) := by decide +kernel
theorem d_QC_lie_81 : decode b_QC_lie 81 = .ok (.astore 5, 2) := by decide +kernel
theorem d_QC_lie_83 : decode b_QC_lie 83 = .ok (.aload 5, 2) := by decide +kernel
theorem d_QC_lie_85 : decode b_QC_lie 85 = .ok (.getfield 76, 3) := by decide +kernel
theorem d_QC_lie_88 : decode b_QC_lie 88 = .ok (.ifCond .eq 29, 3) := by decide +kernel
theorem d_QC_lie_91 : decode b_QC_lie 91 = .ok (.aload 5, 2) := by decide +kernel
theorem d_QC_lie_93 : decode b_QC_lie 93 = .ok (.getfield 179, 3) := by decide +kernel
theorem d_QC_lie_96 : decode b_QC_lie 96 = .ok (.getfield 183, 3) := by decide +kernel
theorem d_QC_lie_99 : decode b_QC_lie 99 = .ok (.invokevirtual 189, 3) := by decide +kernel
theorem d_QC_lie_102 : decode b_QC_lie 102 = .ok (.ifCond .eq 15, 3) := by decide +kernel
theorem d_QC_lie_105 : decode b_QC_lie 105 = .ok (.aload 5, 2) := by decide +kernel
theorem d_QC_lie_107 : decode b_QC_lie 107 = .ok (.getfield 179, 3) := by decide +kernel
theorem d_QC_lie_110 : decode b_QC_lie 110 = .ok (.iload_n 3, 1) := by decide +kernel
theorem d_QC_lie_111 : decode b_QC_lie 111 = .ok (.invokevirtual 195, 3) := by decide +kernel
theorem d_QC_lie_114 : decode b_QC_lie 114 = .ok (.ifCond .ne 13, 3) := by decide +kernel
theorem d_QC_lie_117 : decode b_QC_lie 117 = .ok (.new 59, 3) := by decide +kernel
theorem d_QC_lie_120 : decode b_QC_lie 120 = .ok (.dup, 1) := by decide +kernel
theorem d_QC_lie_121 : decode b_QC_lie 121 = .ok (.ldc 198, 2) := by decide +kernel
theorem d_QC_lie_123 : decode b_QC_lie 123 = .ok (.invokespecial 63, 3) := by decide +kernel
theorem d_QC_lie_126 : decode b_QC_lie 126 = .ok (.athrow, 1) := by decide +kernel
theorem d_QC_lie_127 : decode b_QC_lie 127 = .ok (.aload_n 0, 1) := by decide +kernel
theorem d_QC_lie_128 : decode b_QC_lie 128 = .ok (.getfield 18, 3) := by decide +kernel
theorem d_QC_lie_131 : decode b_QC_lie 131 = .ok (.iload_n 3, 1) := by decide +kernel
theorem d_QC_lie_132 : decode b_QC_lie 132 = .ok (.invokevirtual 200, 3) := by decide +kernel
theorem d_QC_lie_135 : decode b_QC_lie 135 = .ok (.ifCond .eq 27, 3) := by decide +kernel
theorem d_QC_lie_138 : decode b_QC_lie 138 = .ok (.aload_n 0, 1) := by decide +kernel
theorem d_QC_lie_139 : decode b_QC_lie 139 = .ok (.getfield 18, 3) := by decide +kernel
theorem d_QC_lie_142 : decode b_QC_lie 142 = .ok (.iload_n 3, 1) := by decide +kernel
theorem d_QC_lie_143 : decode b_QC_lie 143 = .ok (.invokevirtual 203, 3) := by decide +kernel
theorem d_QC_lie_146 : decode b_QC_lie 146 = .ok (.iload_n 2, 1) := by decide +kernel
theorem d_QC_lie_147 : decode b_QC_lie 147 = .ok (.if_icmp .ge 15, 3) := by decide +kernel
theorem d_QC_lie_150 : decode b_QC_lie 150 = .ok (.aload_n 0, 1) := by decide +kernel
theorem d_QC_lie_151 : decode b_QC_lie 151 = .ok (.getfield 18, 3) := by decide +kernel
theorem d_QC_lie_154 : decode b_QC_lie 154 = .ok (.getfield 206, 3) := by decide +kernel
theorem d_QC_lie_157 : decode b_QC_lie 157 = .ok (.bipush 100, 2) := by decide +kernel
theorem d_QC_lie_159 : decode b_QC_lie 159 = .ok (.if_icmp .lt 13, 3) := by decide +kernel
theorem d_QC_lie_162 : decode b_QC_lie 162 = .ok (.new 59, 3) := by decide +kernel
theorem d_QC_lie_165 : decode b_QC_lie 165 = .ok (.dup, 1) := by decide +kernel
theorem d_QC_lie_166 : decode b_QC_lie 166 = .ok (.ldc 207, 2) := by decide +kernel
theorem d_QC_lie_168 : decode b_QC_lie 168 = .ok (.invokespecial 63, 3) := by decide +kernel
theorem d_QC_lie_171 : decode b_QC_lie 171 = .ok (.athrow, 1) := by decide +kernel
theorem d_QC_lie_172 : decode b_QC_lie 172 = .ok (.aload_n 0, 1) := by decide +kernel
theorem d_QC_lie_173 : decode b_QC_lie 173 = .ok (.getfield 18, 3) := by decide +kernel
theorem d_QC_lie_176 : decode b_QC_lie 176 = .ok (.iload_n 2, 1) := by decide +kernel
theorem d_QC_lie_177 : decode b_QC_lie 177 = .ok (.iload_n 3, 1) := by decide +kernel
theorem d_QC_lie_178 : decode b_QC_lie 178 = .ok (.iload 4, 2) := by decide +kernel
theorem d_QC_lie_180 : decode b_QC_lie 180 = .ok (.invokevirtual 209, 3) := by decide +kernel
theorem d_QC_lie_183 : decode b_QC_lie 183 = .ok (.istore 6, 2) := by decide +kernel
theorem d_QC_lie_185 : decode b_QC_lie 185 = .ok (.aload 5, 2) := by decide +kernel
theorem d_QC_lie_187 : decode b_QC_lie 187 = .ok (.getfield 179, 3) := by decide +kernel
theorem d_QC_lie_190 : decode b_QC_lie 190 = .ok (.iload 6, 2) := by decide +kernel
theorem d_QC_lie_192 : decode b_QC_lie 192 = .ok (.invokevirtual 212, 3) := by decide +kernel
theorem d_QC_lie_195 : decode b_QC_lie 195 = .ok (.aload_n 0, 1) := by decide +kernel
theorem d_QC_lie_196 : decode b_QC_lie 196 = .ok (.aload 5, 2) := by decide +kernel
theorem d_QC_lie_198 : decode b_QC_lie 198 = .ok (.iconst 1, 1) := by decide +kernel
theorem d_QC_lie_199 : decode b_QC_lie 199 = .ok (.iload 6, 2) := by decide +kernel
theorem d_QC_lie_201 : decode b_QC_lie 201 = .ok (.iconst 0, 1) := by decide +kernel
theorem d_QC_lie_202 : decode b_QC_lie 202 = .ok (.invokevirtual 216, 3) := by decide +kernel
theorem d_QC_lie_205 : decode b_QC_lie 205 = .ok (.ifCond .eq 19, 3) := by decide +kernel
theorem d_QC_lie_208 : decode b_QC_lie 208 = .ok (.aload_n 0, 1) := by decide +kernel
theorem d_QC_lie_209 : decode b_QC_lie 209 = .ok (.getfield 11, 3) := by decide +kernel
theorem d_QC_lie_212 : decode b_QC_lie 212 = .ok (.iload_n 1, 1) := by decide +kernel
theorem d_QC_lie_213 : decode b_QC_lie 213 = .ok (.aaload, 1) := by decide +kernel
theorem d_QC_lie_214 : decode b_QC_lie 214 = .ok (.getfield 99, 3) := by decide +kernel
theorem d_QC_lie_217 : decode b_QC_lie 217 = .ok (.aload_n 0, 1) := by decide +kernel
theorem d_QC_lie_218 : decode b_QC_lie 218 = .ok (.getfield 32, 3) := by decide +kernel
theorem d_QC_lie_221 : decode b_QC_lie 221 = .ok (.invokevirtual 157, 3) := by decide +kernel
theorem d_QC_lie_224 : decode b_QC_lie 224 = .ok (.iload 6, 2) := by decide +kernel
theorem d_QC_lie_226 : decode b_QC_lie 226 = .ok (.ireturn, 1) := by decide +kernel
def f_QC_lie (a1 : Int32) (a2 : Int32) (a3 : Int32) (a4 : Int32) (S : St) : Nat × Int32 × St :=
  lt (f_QC_isNode a1 S) fun (r1 : Int32) =>
  if r1 = 0 then
    (1, (0 : Int32), S)
  else
    lt (f_Blocks_exists a3 S) fun (r3 : Int32) =>
    if r3 = 0 then
      (1, (0 : Int32), S)
    else
      if a4 = (-1 : Int32) then
        if a2 < (1 : Int32) then
          (1, (0 : Int32), S)
        else
          if (60 : Int32) < a2 then
            (1, (0 : Int32), S)
          else
            lt (f_QC_leaderOf a2 S) fun (r8 : Int32) =>
            if r8 = (3 : Int32) then
              if (S.1 3 3 0 7) = 0 then
                (2, (0 : Int32), S)
              else
                lt (f_KeyTree_isLeft 3 S) fun (r12 : Int32) =>
                if r12 = 0 then
                  (2, (0 : Int32), S)
                else
                  lt (f_Store_hasBlock 3 a3 S) fun (r15 : Int32) =>
                  if r15 = 0 then
                    (2, (0 : Int32), S)
                  else
                    lt (f_Blocks_isCertified a3 S) fun (r18 : Int32) =>
                    if r18 = 0 then
                      (2, (0 : Int32), S)
                    else
                      lt (f_Blocks_viewOf a3 S) fun (r21 : Int32) =>
                      if a2 ≤ r21 then
                        (2, (0 : Int32), S)
                      else
                        if (S.1 19 0 0 4) < (100 : Int32) then
                          lt (f_Blocks_add a2 a3 a4 S) fun (r25 : Int32 × St) =>
                          lt (f_Store_keepBlock 3 r25.1 r25.2) fun (S28 : St) =>
                          lt (f_QC_writeSigned 3 (1 : Int32) r25.1 (0 : Int32) S28) fun (r30 : Int32 × St) =>
                          if r30.1 = 0 then
                            (0, r25.1, r30.2)
                          else
                            lt (f_Inbox_add (a1.toNatClampNeg) 4 0 r30.2) fun (S35 : St) =>
                            (0, r25.1, S35)
                        else
                          (2, (0 : Int32), S)
            else
              (1, (0 : Int32), S)
      else
        lt (f_Transactions_exists a4 S) fun (r36 : Int32) =>
        if r36 = 0 then
          (1, (0 : Int32), S)
        else
          if a2 < (1 : Int32) then
            (1, (0 : Int32), S)
          else
            if (60 : Int32) < a2 then
              (1, (0 : Int32), S)
            else
              lt (f_QC_leaderOf a2 S) fun (r40 : Int32) =>
              if r40 = (3 : Int32) then
                if (S.1 3 3 0 7) = 0 then
                  (2, (0 : Int32), S)
                else
                  lt (f_KeyTree_isLeft 3 S) fun (r44 : Int32) =>
                  if r44 = 0 then
                    (2, (0 : Int32), S)
                  else
                    lt (f_Store_hasBlock 3 a3 S) fun (r47 : Int32) =>
                    if r47 = 0 then
                      (2, (0 : Int32), S)
                    else
                      lt (f_Blocks_isCertified a3 S) fun (r50 : Int32) =>
                      if r50 = 0 then
                        (2, (0 : Int32), S)
                      else
                        lt (f_Blocks_viewOf a3 S) fun (r53 : Int32) =>
                        if a2 ≤ r53 then
                          (2, (0 : Int32), S)
                        else
                          if (S.1 19 0 0 4) < (100 : Int32) then
                            lt (f_Blocks_add a2 a3 a4 S) fun (r57 : Int32 × St) =>
                            lt (f_Store_keepBlock 3 r57.1 r57.2) fun (S60 : St) =>
                            lt (f_QC_writeSigned 3 (1 : Int32) r57.1 (0 : Int32) S60) fun (r62 : Int32 × St) =>
                            if r62.1 = 0 then
                              (0, r57.1, r62.2)
                            else
                              lt (f_Inbox_add (a1.toNatClampNeg) 4 0 r62.2) fun (S67 : St) =>
                              (0, r57.1, S67)
                          else
                            (2, (0 : Int32), S)
              else
                (1, (0 : Int32), S)
def ok_QC_lie (a1 : Int32) (a2 : Int32) (a3 : Int32) (a4 : Int32) (S : St) : Prop :=
  lt (f_QC_isNode a1 S) fun (r1 : Int32) =>
  (r1 = 0 → (
    True)) ∧ (¬ (r1 = 0) → (
    lt (f_Blocks_exists a3 S) fun (r3 : Int32) =>
    (r3 = 0 → (
      True)) ∧ (¬ (r3 = 0) → (
      (a4 = (-1 : Int32) → (
        (a2 < (1 : Int32) → (
          True)) ∧ (¬ (a2 < (1 : Int32)) → (
          ((60 : Int32) < a2 → (
            True)) ∧ (¬ ((60 : Int32) < a2) → (
            lt (f_QC_leaderOf a2 S) fun (r8 : Int32) =>
            (r8 = (3 : Int32) → (
              ((S.1 3 3 0 7) = 0 → (
                True)) ∧ (¬ ((S.1 3 3 0 7) = 0) → (
                lt (f_KeyTree_isLeft 3 S) fun (r12 : Int32) =>
                (r12 = 0 → (
                  True)) ∧ (¬ (r12 = 0) → (
                  (ok_Store_hasBlock 3 a3 S) ∧ (
                    lt (f_Store_hasBlock 3 a3 S) fun (r15 : Int32) =>
                    (r15 = 0 → (
                      True)) ∧ (¬ (r15 = 0) → (
                      (ok_Blocks_isCertified a3 S) ∧ (
                        lt (f_Blocks_isCertified a3 S) fun (r18 : Int32) =>
                        (r18 = 0 → (
                          True)) ∧ (¬ (r18 = 0) → (
                          (ok_Blocks_viewOf a3 S) ∧ (
                            lt (f_Blocks_viewOf a3 S) fun (r21 : Int32) =>
                            (a2 ≤ r21 → (
                              True)) ∧ (¬ (a2 ≤ r21) → (
                              ((S.1 19 0 0 4) < (100 : Int32) → (
                                (ok_Blocks_add a2 a3 a4 S) ∧ (
                                  lt (f_Blocks_add a2 a3 a4 S) fun (r25 : Int32 × St) =>
                                  (ok_Store_keepBlock 3 r25.1 r25.2) ∧ (
                                    lt (f_Store_keepBlock 3 r25.1 r25.2) fun (S28 : St) =>
                                    (ok_QC_writeSigned 3 (1 : Int32) r25.1 (0 : Int32) S28) ∧ (
                                      lt (f_QC_writeSigned 3 (1 : Int32) r25.1 (0 : Int32) S28) fun (r30 : Int32 × St) =>
                                      (r30.1 = 0 → (
                                        True)) ∧ (¬ (r30.1 = 0) → (
                                        (vp_in a1 4) ∧ (
                                          (ok_Inbox_add (a1.toNatClampNeg) 4 0 r30.2) ∧ (
                                            True))))))))) ∧ (¬ ((S.1 19 0 0 4) < (100 : Int32)) → (
                                True))))))))))))))))) ∧ (¬ (r8 = (3 : Int32)) → (
              True)))))))) ∧ (¬ (a4 = (-1 : Int32)) → (
        lt (f_Transactions_exists a4 S) fun (r36 : Int32) =>
        (r36 = 0 → (
          True)) ∧ (¬ (r36 = 0) → (
          (a2 < (1 : Int32) → (
            True)) ∧ (¬ (a2 < (1 : Int32)) → (
            ((60 : Int32) < a2 → (
              True)) ∧ (¬ ((60 : Int32) < a2) → (
              lt (f_QC_leaderOf a2 S) fun (r40 : Int32) =>
              (r40 = (3 : Int32) → (
                ((S.1 3 3 0 7) = 0 → (
                  True)) ∧ (¬ ((S.1 3 3 0 7) = 0) → (
                  lt (f_KeyTree_isLeft 3 S) fun (r44 : Int32) =>
                  (r44 = 0 → (
                    True)) ∧ (¬ (r44 = 0) → (
                    (ok_Store_hasBlock 3 a3 S) ∧ (
                      lt (f_Store_hasBlock 3 a3 S) fun (r47 : Int32) =>
                      (r47 = 0 → (
                        True)) ∧ (¬ (r47 = 0) → (
                        (ok_Blocks_isCertified a3 S) ∧ (
                          lt (f_Blocks_isCertified a3 S) fun (r50 : Int32) =>
                          (r50 = 0 → (
                            True)) ∧ (¬ (r50 = 0) → (
                            (ok_Blocks_viewOf a3 S) ∧ (
                              lt (f_Blocks_viewOf a3 S) fun (r53 : Int32) =>
                              (a2 ≤ r53 → (
                                True)) ∧ (¬ (a2 ≤ r53) → (
                                ((S.1 19 0 0 4) < (100 : Int32) → (
                                  (ok_Blocks_add a2 a3 a4 S) ∧ (
                                    lt (f_Blocks_add a2 a3 a4 S) fun (r57 : Int32 × St) =>
                                    (ok_Store_keepBlock 3 r57.1 r57.2) ∧ (
                                      lt (f_Store_keepBlock 3 r57.1 r57.2) fun (S60 : St) =>
                                      (ok_QC_writeSigned 3 (1 : Int32) r57.1 (0 : Int32) S60) ∧ (
                                        lt (f_QC_writeSigned 3 (1 : Int32) r57.1 (0 : Int32) S60) fun (r62 : Int32 × St) =>
                                        (r62.1 = 0 → (
                                          True)) ∧ (¬ (r62.1 = 0) → (
                                          (vp_in a1 4) ∧ (
                                            (ok_Inbox_add (a1.toNatClampNeg) 4 0 r62.2) ∧ (
                                              True))))))))) ∧ (¬ ((S.1 19 0 0 4) < (100 : Int32)) → (
                                  True))))))))))))))))) ∧ (¬ (r40 = (3 : Int32)) → (
                True))))))))))))))
set_option maxHeartbeats 4000000 in
set_option maxRecDepth 100000 in
theorem c_QC_lie (l : Launch) (htr : l.stackTraces = false) (D : va_G) (X : va_W) (ad : N3 → Nat) (ca : Nat → ClassId) (a1 : Int32) (a2 : Int32) (a3 : Int32) (a4 : Int32)  (S : St) (hk : ok_QC_lie a1 a2 a3 a4 S) : cX l GG D clQ (tysQ ca) nwQ X ad TQ (cfQ ad ca) y_QC_lie b_QC_lie 7 .int 6 122 [.ref (ad (1, 0, 0)), .int a1, .int a2, .int a3, .int a4] S (f_QC_lie a1 a2 a3 a4 S) := by
  generalize hr : f_QC_lie a1 a2 a3 a4 S = res
  refine xI_of pn_QC (Nat.le_of_ble_eq_true rfl) (fun p e s m below meth c A ls hy hX hno hW hA hl => ?_)
  have hF := hy.1
  have hx := hF.1
  have hb := hF.2.1
  have hK := hy.2.2.2
  have hl : lv_has ls 7 [(0, .ref (ad (1, 0, 0))), (1, .int a1), (2, .int a2), (3, .int a3), (4, .int a4)] := hl
  refine lv_iload_n (pc := 0) hx hb d_QC_lie_0 rfl (lv_at hl 1 rfl) ?_
  obtain ⟨r1, er1⟩ : ∃ z : Int32, z = f_QC_isNode a1 S := ⟨_, rfl⟩
  have hk := lt_p er1 hk
  have hr := lt_e er1 hr
  refine p_go (pc := 1) (congrArg Value.int er1) (p_runS hF hK hW (c_QC_isNode l D X ad ca a1 S _) cd_QC_isNode gw_430 ⟨Nat.le_of_ble_eq_true rfl, Nat.le_of_ble_eq_true rfl⟩ ⟨Nat.zero_le _, Nat.zero_le _⟩ rfl rfl hl.1 (Nat.le_of_ble_eq_true rfl) d_QC_lie_1) ?_
  refine lv_if_eq (pc := 4) (tgt := 36) hx hb d_QC_lie_4 (by decide) (fun c2 => ?_) (fun c2 => ?_)
  · have hk := hk.1 c2
    have hr := (if_pos c2).symm.trans hr
    exact x_throw (pc := 36) (k := 1) (text := "no such node, block or transaction") (cls := xIA) htr hF hy.2.2.1 hX hno hl.1 (congrArg Prod.fst hr.symm) (by decide) rfl xfA xatA (by decide +kernel) gw_509 gw_510 gw_67 (Nat.le_of_ble_eq_true rfl) (Nat.le_of_ble_eq_true rfl) ⟨rfl, rfl⟩ d_QC_lie_36 d_QC_lie_39 d_QC_lie_40 d_QC_lie_42 d_QC_lie_45
  · have hk := hk.2 c2
    have hr := (if_neg c2).symm.trans hr
    refine lv_aload_n (pc := 7) hx hb d_QC_lie_7 rfl (lv_at hl 0 rfl) ?_
    refine z_get (pc := 8) (v := .ref (ad (19, 0, 0))) hF hK.1 hW tq1 rfl rfl in_QC 1 (by decide) gw_345 rfl rfl d_QC_lie_8 ?_
    refine lv_iload_n (pc := 11) hx hb d_QC_lie_11 rfl (lv_at hl 3 rfl) ?_
    obtain ⟨r3, er3⟩ : ∃ z : Int32, z = f_Blocks_exists a3 S := ⟨_, rfl⟩
    have hk := lt_p er3 hk
    have hr := lt_e er3 hr
    refine p_go (pc := 12) (congrArg Value.int er3) (p_runV hF hK hW (c_Blocks_exists l D X ad ca a3 S _) cd_Blocks_exists gw_452 tq19 rfl rfl ⟨Nat.le_of_ble_eq_true rfl, Nat.le_of_ble_eq_true rfl⟩ ⟨Nat.zero_le _, Nat.zero_le _⟩ rfl rfl hl.1 (Nat.le_of_ble_eq_true rfl) d_QC_lie_12) ?_
    refine lv_if_eq (pc := 15) (tgt := 36) hx hb d_QC_lie_15 (by decide) (fun c4 => ?_) (fun c4 => ?_)
    · have hk := hk.1 c4
      have hr := (if_pos c4).symm.trans hr
      exact x_throw (pc := 36) (k := 1) (text := "no such node, block or transaction") (cls := xIA) htr hF hy.2.2.1 hX hno hl.1 (congrArg Prod.fst hr.symm) (by decide) rfl xfA xatA (by decide +kernel) gw_509 gw_510 gw_67 (Nat.le_of_ble_eq_true rfl) (Nat.le_of_ble_eq_true rfl) ⟨rfl, rfl⟩ d_QC_lie_36 d_QC_lie_39 d_QC_lie_40 d_QC_lie_42 d_QC_lie_45
    · have hk := hk.2 c4
      have hr := (if_neg c4).symm.trans hr
      refine lv_iload (pc := 18) hx hb d_QC_lie_18 (lv_at hl 4 rfl) ?_
      refine lv_iconst (pc := 20) (v := -1) hx hb d_QC_lie_20 (by decide) ?_
      refine lv_icmp_eq (pc := 21) (tgt := 46) hx hb d_QC_lie_21 (by decide) (fun c5 => ?_) (fun c5 => ?_)
      · have hk := hk.1 c5
        have hr := (if_pos c5).symm.trans hr
        refine lv_iload_n (pc := 46) hx hb d_QC_lie_46 rfl (lv_at hl 2 rfl) ?_
        refine lv_iconst (pc := 47) (v := 1) hx hb d_QC_lie_47 (by decide) ?_
        refine lv_icmp_lt (pc := 48) (tgt := 65) hx hb d_QC_lie_48 (by decide) (fun c6 => ?_) (fun c6 => ?_)
        · have hk := hk.1 c6
          have hr := (if_pos c6).symm.trans hr
          exact x_throw (pc := 65) (k := 1) (text := "not a view of the lying node") (cls := xIA) htr hF hy.2.2.1 hX hno hl.1 (congrArg Prod.fst hr.symm) (by decide) rfl xfA xatA (by decide +kernel) gw_509 gw_510 gw_67 (Nat.le_of_ble_eq_true rfl) (Nat.le_of_ble_eq_true rfl) ⟨rfl, rfl⟩ d_QC_lie_65 d_QC_lie_68 d_QC_lie_69 d_QC_lie_71 d_QC_lie_74
        · have hk := hk.2 c6
          have hr := (if_neg c6).symm.trans hr
          refine lv_iload_n (pc := 51) hx hb d_QC_lie_51 rfl (lv_at hl 2 rfl) ?_
          refine lv_bipush (pc := 52) (v := 60) hx hb d_QC_lie_52 (by decide) ?_
          refine lv_icmp_gt (pc := 54) (tgt := 65) hx hb d_QC_lie_54 (by decide) (fun c7 => ?_) (fun c7 => ?_)
          · have hk := hk.1 c7
            have hr := (if_pos c7).symm.trans hr
            exact x_throw (pc := 65) (k := 1) (text := "not a view of the lying node") (cls := xIA) htr hF hy.2.2.1 hX hno hl.1 (congrArg Prod.fst hr.symm) (by decide) rfl xfA xatA (by decide +kernel) gw_509 gw_510 gw_67 (Nat.le_of_ble_eq_true rfl) (Nat.le_of_ble_eq_true rfl) ⟨rfl, rfl⟩ d_QC_lie_65 d_QC_lie_68 d_QC_lie_69 d_QC_lie_71 d_QC_lie_74
          · have hk := hk.2 c7
            have hr := (if_neg c7).symm.trans hr
            refine lv_iload_n (pc := 57) hx hb d_QC_lie_57 rfl (lv_at hl 2 rfl) ?_
            obtain ⟨r8, er8⟩ : ∃ z : Int32, z = f_QC_leaderOf a2 S := ⟨_, rfl⟩
            have hk := lt_p er8 hk
            have hr := lt_e er8 hr
            refine p_go (pc := 58) (congrArg Value.int er8) (p_runS hF hK hW (c_QC_leaderOf l D X ad ca a2 S _) cd_QC_leaderOf gw_670 ⟨Nat.le_of_ble_eq_true rfl, Nat.le_of_ble_eq_true rfl⟩ ⟨Nat.zero_le _, Nat.zero_le _⟩ rfl rfl hl.1 (Nat.le_of_ble_eq_true rfl) d_QC_lie_58) ?_
            refine lv_iconst (pc := 61) (v := 3) hx hb d_QC_lie_61 (by decide) ?_
            refine lv_icmp_eq (pc := 62) (tgt := 75) hx hb d_QC_lie_62 (by decide) (fun c9 => ?_) (fun c9 => ?_)
            · have hk := hk.1 c9
              have hr := (if_pos c9).symm.trans hr
              refine lv_aload_n (pc := 75) hx hb d_QC_lie_75 rfl (lv_at hl 0 rfl) ?_
              refine z_get (pc := 76) (v := .ref (ad (2, 0, 0))) hF hK.1 hW tq1 rfl rfl in_QC 0 (by decide) gw_344 rfl rfl d_QC_lie_76 ?_
              refine lv_iconst (pc := 79) (v := 3) hx hb d_QC_lie_79 (by decide) ?_
              have b10 : vp_in (3 : Int32) 4 := by unfold vp_in; decide
              refine z_aald (pc := 80) (q := ad (3, 3, 0)) hF hK.1 hW tq2 3 rfl rfl b10 rfl d_QC_lie_80 ?_
              refine lv_astore (pc := 81) (lv' := [(5, .ref (ad (3, 3, 0))), (0, .ref (ad (1, 0, 0))), (1, .int a1), (2, .int a2), (3, .int a3), (4, .int a4)]) hx hb d_QC_lie_81 hl (by decide) rfl (fun ls hl => ?_)
              refine lv_aload (pc := 83) hx hb d_QC_lie_83 (lv_at hl 0 rfl) ?_
              refine z_get (pc := 85) (v := .int (S.1 3 3 0 7)) hF hK.1 hW (tq3 (vin4 b10)) rfl rfl in_Node 7 (by decide) gw_310 rfl rfl d_QC_lie_85 ?_
              refine lv_if_eq (pc := 88) (tgt := 117) hx hb d_QC_lie_88 (by decide) (fun c11 => ?_) (fun c11 => ?_)
              · have hk := hk.1 c11
                have hr := (if_pos c11).symm.trans hr
                exact x_throw (pc := 117) (k := 2) (text := "the lying node is down, has no key or not the parent") (cls := xIS) htr hF hy.2.2.1 hX hno hl.1 (congrArg Prod.fst hr.symm) (by decide) rfl xfS xatS (by decide +kernel) gw_577 gw_578 gw_68 (Nat.le_of_ble_eq_true rfl) (Nat.le_of_ble_eq_true rfl) ⟨rfl, rfl⟩ d_QC_lie_117 d_QC_lie_120 d_QC_lie_121 d_QC_lie_123 d_QC_lie_126
              · have hk := hk.2 c11
                have hr := (if_neg c11).symm.trans hr
                refine lv_aload (pc := 91) hx hb d_QC_lie_91 (lv_at hl 0 rfl) ?_
                refine z_get (pc := 93) (v := .ref (ad (4, 3, 0))) hF hK.1 hW (tq3 (vin4 b10)) rfl rfl in_Node 1 (by decide) gw_298 rfl rfl d_QC_lie_93 ?_
                refine z_get (pc := 96) (v := .ref (ad (10, 3, 0))) hF hK.1 hW (tq4 (vin4 b10)) rfl rfl in_Store 3 (by decide) gw_270 rfl rfl d_QC_lie_96 ?_
                obtain ⟨r12, er12⟩ : ∃ z : Int32, z = f_KeyTree_isLeft 3 S := ⟨_, rfl⟩
                have hk := lt_p er12 hk
                have hr := lt_e er12 hr
                refine p_go (pc := 99) (congrArg Value.int er12) (p_runV hF hK hW (c_KeyTree_isLeft l D X ad ca 3 (vin4 b10) S _) cd_KeyTree_isLeft gw_801 (tq10 (vin4 b10)) rfl rfl ⟨Nat.le_of_ble_eq_true rfl, Nat.le_of_ble_eq_true rfl⟩ ⟨Nat.zero_le _, Nat.zero_le _⟩ rfl rfl hl.1 (Nat.le_of_ble_eq_true rfl) d_QC_lie_99) ?_
                refine lv_if_eq (pc := 102) (tgt := 117) hx hb d_QC_lie_102 (by decide) (fun c13 => ?_) (fun c13 => ?_)
                · have hk := hk.1 c13
                  have hr := (if_pos c13).symm.trans hr
                  exact x_throw (pc := 117) (k := 2) (text := "the lying node is down, has no key or not the parent") (cls := xIS) htr hF hy.2.2.1 hX hno hl.1 (congrArg Prod.fst hr.symm) (by decide) rfl xfS xatS (by decide +kernel) gw_577 gw_578 gw_68 (Nat.le_of_ble_eq_true rfl) (Nat.le_of_ble_eq_true rfl) ⟨rfl, rfl⟩ d_QC_lie_117 d_QC_lie_120 d_QC_lie_121 d_QC_lie_123 d_QC_lie_126
                · have hk := hk.2 c13
                  have hr := (if_neg c13).symm.trans hr
                  refine lv_aload (pc := 105) hx hb d_QC_lie_105 (lv_at hl 0 rfl) ?_
                  refine z_get (pc := 107) (v := .ref (ad (4, 3, 0))) hF hK.1 hW (tq3 (vin4 b10)) rfl rfl in_Node 1 (by decide) gw_298 rfl rfl d_QC_lie_107 ?_
                  refine lv_iload_n (pc := 110) hx hb d_QC_lie_110 rfl (lv_at hl 4 rfl) ?_
                  have o14 := hk.1
                  have hk := hk.2
                  obtain ⟨r15, er15⟩ : ∃ z : Int32, z = f_Store_hasBlock 3 a3 S := ⟨_, rfl⟩
                  have hk := lt_p er15 hk
                  have hr := lt_e er15 hr
                  refine p_go (pc := 111) (congrArg Value.int er15) (p_runV hF hK hW (c_Store_hasBlock l D X ad ca 3 a3 (vin4 b10) S o14 _) cd_Store_hasBlock gw_477 (tq4 (vin4 b10)) rfl rfl ⟨Nat.le_of_ble_eq_true rfl, Nat.le_of_ble_eq_true rfl⟩ ⟨Nat.zero_le _, Nat.zero_le _⟩ rfl rfl hl.1 (Nat.le_of_ble_eq_true rfl) d_QC_lie_111) ?_
                  refine lv_if_ne (pc := 114) (tgt := 127) hx hb d_QC_lie_114 (by decide) (fun c16 => ?_) (fun c16 => ?_)
                  · have hk := hk.2 c16
                    have hr := (if_neg c16).symm.trans hr
                    refine lv_aload_n (pc := 127) hx hb d_QC_lie_127 rfl (lv_at hl 1 rfl) ?_
                    refine z_get (pc := 128) (v := .ref (ad (19, 0, 0))) hF hK.1 hW tq1 rfl rfl in_QC 1 (by decide) gw_345 rfl rfl d_QC_lie_128 ?_
                    refine lv_iload_n (pc := 131) hx hb d_QC_lie_131 rfl (lv_at hl 4 rfl) ?_
                    have o17 := hk.1
                    have hk := hk.2
                    obtain ⟨r18, er18⟩ : ∃ z : Int32, z = f_Blocks_isCertified a3 S := ⟨_, rfl⟩
                    have hk := lt_p er18 hk
                    have hr := lt_e er18 hr
                    refine p_go (pc := 132) (congrArg Value.int er18) (p_runV hF hK hW (c_Blocks_isCertified l D X ad ca a3 S o17 _) cd_Blocks_isCertified gw_469 tq19 rfl rfl ⟨Nat.le_of_ble_eq_true rfl, Nat.le_of_ble_eq_true rfl⟩ ⟨Nat.zero_le _, Nat.zero_le _⟩ rfl rfl hl.1 (Nat.le_of_ble_eq_true rfl) d_QC_lie_132) ?_
                    refine lv_if_eq (pc := 135) (tgt := 162) hx hb d_QC_lie_135 (by decide) (fun c19 => ?_) (fun c19 => ?_)
                    · have hk := hk.1 c19
                      have hr := (if_pos c19).symm.trans hr
                      exact x_throw (pc := 162) (k := 2) (text := "not a parent for that view, or no room for a block") (cls := xIS) htr hF hy.2.2.1 hX hno hl.1 (congrArg Prod.fst hr.symm) (by decide) rfl xfS xatS (by decide +kernel) gw_577 gw_578 gw_68 (Nat.le_of_ble_eq_true rfl) (Nat.le_of_ble_eq_true rfl) ⟨rfl, rfl⟩ d_QC_lie_162 d_QC_lie_165 d_QC_lie_166 d_QC_lie_168 d_QC_lie_171
                    · have hk := hk.2 c19
                      have hr := (if_neg c19).symm.trans hr
                      refine lv_aload_n (pc := 138) hx hb d_QC_lie_138 rfl (lv_at hl 1 rfl) ?_
                      refine z_get (pc := 139) (v := .ref (ad (19, 0, 0))) hF hK.1 hW tq1 rfl rfl in_QC 1 (by decide) gw_345 rfl rfl d_QC_lie_139 ?_
                      refine lv_iload_n (pc := 142) hx hb d_QC_lie_142 rfl (lv_at hl 4 rfl) ?_
                      have o20 := hk.1
                      have hk := hk.2
                      obtain ⟨r21, er21⟩ : ∃ z : Int32, z = f_Blocks_viewOf a3 S := ⟨_, rfl⟩
                      have hk := lt_p er21 hk
                      have hr := lt_e er21 hr
                      refine p_go (pc := 143) (congrArg Value.int er21) (p_runV hF hK hW (c_Blocks_viewOf l D X ad ca a3 S o20 _) cd_Blocks_viewOf gw_456 tq19 rfl rfl ⟨Nat.le_of_ble_eq_true rfl, Nat.le_of_ble_eq_true rfl⟩ ⟨Nat.zero_le _, Nat.zero_le _⟩ rfl rfl hl.1 (Nat.le_of_ble_eq_true rfl) d_QC_lie_143) ?_
                      refine lv_iload_n (pc := 146) hx hb d_QC_lie_146 rfl (lv_at hl 3 rfl) ?_
                      refine lv_icmp_ge (pc := 147) (tgt := 162) hx hb d_QC_lie_147 (by decide) (fun c22 => ?_) (fun c22 => ?_)
                      · have hk := hk.1 c22
                        have hr := (if_pos c22).symm.trans hr
                        exact x_throw (pc := 162) (k := 2) (text := "not a parent for that view, or no room for a block") (cls := xIS) htr hF hy.2.2.1 hX hno hl.1 (congrArg Prod.fst hr.symm) (by decide) rfl xfS xatS (by decide +kernel) gw_577 gw_578 gw_68 (Nat.le_of_ble_eq_true rfl) (Nat.le_of_ble_eq_true rfl) ⟨rfl, rfl⟩ d_QC_lie_162 d_QC_lie_165 d_QC_lie_166 d_QC_lie_168 d_QC_lie_171
                      · have hk := hk.2 c22
                        have hr := (if_neg c22).symm.trans hr
                        refine lv_aload_n (pc := 150) hx hb d_QC_lie_150 rfl (lv_at hl 1 rfl) ?_
                        refine z_get (pc := 151) (v := .ref (ad (19, 0, 0))) hF hK.1 hW tq1 rfl rfl in_QC 1 (by decide) gw_345 rfl rfl d_QC_lie_151 ?_
                        refine z_get (pc := 154) (v := .int (S.1 19 0 0 4)) hF hK.1 hW tq19 rfl rfl in_Blocks 4 (by decide) gw_93 rfl rfl d_QC_lie_154 ?_
                        refine lv_bipush (pc := 157) (v := 100) hx hb d_QC_lie_157 (by decide) ?_
                        refine lv_icmp_lt (pc := 159) (tgt := 172) hx hb d_QC_lie_159 (by decide) (fun c23 => ?_) (fun c23 => ?_)
                        · have hk := hk.1 c23
                          have hr := (if_pos c23).symm.trans hr
                          refine lv_aload_n (pc := 172) hx hb d_QC_lie_172 rfl (lv_at hl 1 rfl) ?_
                          refine z_get (pc := 173) (v := .ref (ad (19, 0, 0))) hF hK.1 hW tq1 rfl rfl in_QC 1 (by decide) gw_345 rfl rfl d_QC_lie_173 ?_
                          refine lv_iload_n (pc := 176) hx hb d_QC_lie_176 rfl (lv_at hl 3 rfl) ?_
                          refine lv_iload_n (pc := 177) hx hb d_QC_lie_177 rfl (lv_at hl 4 rfl) ?_
                          refine lv_iload (pc := 178) hx hb d_QC_lie_178 (lv_at hl 5 rfl) ?_
                          have o24 := hk.1
                          have hk := hk.2
                          obtain ⟨r25, er25⟩ : ∃ z : Int32 × St, z = f_Blocks_add a2 a3 a4 S := ⟨_, rfl⟩
                          have hk := lt_p er25 hk
                          have hr := lt_e er25 hr
                          refine z_goI (pc := 180) hW hA (show (r25.1, r25.2) = _ from er25) (z_runV hF hK hW (c_Blocks_add l D X ad ca a2 a3 a4 S o24 _) cd_Blocks_add gw_636 tq19 rfl rfl ⟨Nat.le_of_ble_eq_true rfl, Nat.le_of_ble_eq_true rfl⟩ ⟨Nat.zero_le _, Nat.zero_le _⟩ rfl rfl hl.1 (Nat.le_of_ble_eq_true rfl) d_QC_lie_180) (fun H locs (hW : Wd D clQ A s.heap (zw X ad TQ (cfQ ad ca) r25.2) H locs) => ?_)
                          refine lv_istore (pc := 183) (lv' := [(6, .int r25.1), (5, .ref (ad (3, 3, 0))), (0, .ref (ad (1, 0, 0))), (1, .int a1), (2, .int a2), (3, .int a3), (4, .int a4)]) hx hb d_QC_lie_183 hl (by decide) rfl (fun ls hl => ?_)
                          refine lv_aload (pc := 185) hx hb d_QC_lie_185 (lv_at hl 1 rfl) ?_
                          refine z_get (pc := 187) (v := .ref (ad (4, 3, 0))) hF hK.1 hW (tq3 (vin4 b10)) rfl rfl in_Node 1 (by decide) gw_298 rfl rfl d_QC_lie_187 ?_
                          refine lv_iload (pc := 190) hx hb d_QC_lie_190 (lv_at hl 0 rfl) ?_
                          have o26 := hk.1
                          have hk := hk.2
                          obtain ⟨S28, eS28⟩ : ∃ z : St, z = f_Store_keepBlock 3 r25.1 r25.2 := ⟨_, rfl⟩
                          have hk := lt_p eS28 hk
                          have hr := lt_e eS28 hr
                          refine z_goV (pc := 192) hW hA eS28 (z_runV hF hK hW (c_Store_keepBlock l D X ad ca 3 r25.1 (vin4 b10) r25.2 o26 _) cd_Store_keepBlock gw_640 (tq4 (vin4 b10)) rfl rfl ⟨Nat.le_of_ble_eq_true rfl, Nat.le_of_ble_eq_true rfl⟩ ⟨Nat.zero_le _, Nat.zero_le _⟩ rfl rfl hl.1 (Nat.le_of_ble_eq_true rfl) d_QC_lie_192) (fun H locs (hW : Wd D clQ A s.heap (zw X ad TQ (cfQ ad ca) S28) H locs) => ?_)
                          refine lv_aload_n (pc := 195) hx hb d_QC_lie_195 rfl (lv_at hl 2 rfl) ?_
                          refine lv_aload (pc := 196) hx hb d_QC_lie_196 (lv_at hl 1 rfl) ?_
                          refine lv_iconst (pc := 198) (v := 1) hx hb d_QC_lie_198 (by decide) ?_
                          refine lv_iload (pc := 199) hx hb d_QC_lie_199 (lv_at hl 0 rfl) ?_
                          refine lv_iconst (pc := 201) (v := 0) hx hb d_QC_lie_201 (by decide) ?_
                          have o29 := hk.1
                          have hk := hk.2
                          obtain ⟨r30, er30⟩ : ∃ z : Int32 × St, z = f_QC_writeSigned 3 (1 : Int32) r25.1 (0 : Int32) S28 := ⟨_, rfl⟩
                          have hk := lt_p er30 hk
                          have hr := lt_e er30 hr
                          refine z_goI (pc := 202) hW hA (show (r30.1, r30.2) = _ from er30) (z_runV hF hK hW (c_QC_writeSigned l D X ad ca 3 (1 : Int32) r25.1 (0 : Int32) (vin4 b10) S28 o29 _) cd_QC_writeSigned gw_377 tq1 rfl rfl ⟨Nat.le_of_ble_eq_true rfl, Nat.le_of_ble_eq_true rfl⟩ ⟨Nat.zero_le _, Nat.zero_le _⟩ rfl rfl hl.1 (Nat.le_of_ble_eq_true rfl) d_QC_lie_202) (fun H locs (hW : Wd D clQ A s.heap (zw X ad TQ (cfQ ad ca) r30.2) H locs) => ?_)
                          refine lv_if_eq (pc := 205) (tgt := 224) hx hb d_QC_lie_205 (by decide) (fun c31 => ?_) (fun c31 => ?_)
                          · have hk := hk.1 c31
                            have hr := (if_pos c31).symm.trans hr
                            refine lv_iload (pc := 224) hx hb d_QC_lie_224 (lv_at hl 0 rfl) ?_
                            exact x_iret (v := r25.1) hy hW hr.symm d_QC_lie_226
                          · have hk := hk.2 c31
                            have hr := (if_neg c31).symm.trans hr
                            refine lv_aload_n (pc := 208) hx hb d_QC_lie_208 rfl (lv_at hl 2 rfl) ?_
                            refine z_get (pc := 209) (v := .ref (ad (2, 0, 0))) hF hK.1 hW tq1 rfl rfl in_QC 0 (by decide) gw_344 rfl rfl d_QC_lie_209 ?_
                            refine lv_iload_n (pc := 212) hx hb d_QC_lie_212 rfl (lv_at hl 3 rfl) ?_
                            have b32 := hk.1
                            have hk := hk.2
                            refine z_aald (pc := 213) (q := ad (3, (a1.toNatClampNeg), 0)) hF hK.1 hW tq2 3 rfl rfl b32 rfl d_QC_lie_213 ?_
                            refine z_get (pc := 214) (v := .ref (ad (12, (a1.toNatClampNeg), 0))) hF hK.1 hW (tq3 (vin4 b32)) rfl rfl in_Node 2 (by decide) gw_300 rfl rfl d_QC_lie_214 ?_
                            refine lv_aload_n (pc := 217) hx hb d_QC_lie_217 rfl (lv_at hl 2 rfl) ?_
                            refine z_get (pc := 218) (v := .ref (ad (14, 4, 0))) hF hK.1 hW tq1 rfl rfl in_QC 3 (by decide) gw_347 rfl rfl d_QC_lie_218 ?_
                            have o33 := hk.1
                            have hk := hk.2
                            obtain ⟨S35, eS35⟩ : ∃ z : St, z = f_Inbox_add (a1.toNatClampNeg) 4 0 r30.2 := ⟨_, rfl⟩
                            have hr := lt_e eS35 hr
                            refine z_goV (pc := 221) hW hA eS35 (z_runV hF hK hW (c_Inbox_add l D X ad ca (a1.toNatClampNeg) 4 0 (vin4 b32) inM_D r30.2 o33 _) cd_Inbox_add gw_411 (tq12 (vin4 b32)) rfl rfl ⟨Nat.le_of_ble_eq_true rfl, Nat.le_of_ble_eq_true rfl⟩ ⟨Nat.zero_le _, Nat.zero_le _⟩ rfl rfl hl.1 (Nat.le_of_ble_eq_true rfl) d_QC_lie_221) (fun H locs (hW : Wd D clQ A s.heap (zw X ad TQ (cfQ ad ca) S35) H locs) => ?_)
                            refine lv_iload (pc := 224) hx hb d_QC_lie_224 (lv_at hl 0 rfl) ?_
                            exact x_iret (v := r25.1) hy hW hr.symm d_QC_lie_226
                        · have hk := hk.2 c23
                          have hr := (if_neg c23).symm.trans hr
                          exact x_throw (pc := 162) (k := 2) (text := "not a parent for that view, or no room for a block") (cls := xIS) htr hF hy.2.2.1 hX hno hl.1 (congrArg Prod.fst hr.symm) (by decide) rfl xfS xatS (by decide +kernel) gw_577 gw_578 gw_68 (Nat.le_of_ble_eq_true rfl) (Nat.le_of_ble_eq_true rfl) ⟨rfl, rfl⟩ d_QC_lie_162 d_QC_lie_165 d_QC_lie_166 d_QC_lie_168 d_QC_lie_171
                  · have hk := hk.1 c16
                    have hr := (if_pos c16).symm.trans hr
                    exact x_throw (pc := 117) (k := 2) (text := "the lying node is down, has no key or not the parent") (cls := xIS) htr hF hy.2.2.1 hX hno hl.1 (congrArg Prod.fst hr.symm) (by decide) rfl xfS xatS (by decide +kernel) gw_577 gw_578 gw_68 (Nat.le_of_ble_eq_true rfl) (Nat.le_of_ble_eq_true rfl) ⟨rfl, rfl⟩ d_QC_lie_117 d_QC_lie_120 d_QC_lie_121 d_QC_lie_123 d_QC_lie_126
            · have hk := hk.2 c9
              have hr := (if_neg c9).symm.trans hr
              exact x_throw (pc := 65) (k := 1) (text := "not a view of the lying node") (cls := xIA) htr hF hy.2.2.1 hX hno hl.1 (congrArg Prod.fst hr.symm) (by decide) rfl xfA xatA (by decide +kernel) gw_509 gw_510 gw_67 (Nat.le_of_ble_eq_true rfl) (Nat.le_of_ble_eq_true rfl) ⟨rfl, rfl⟩ d_QC_lie_65 d_QC_lie_68 d_QC_lie_69 d_QC_lie_71 d_QC_lie_74
      · have hk := hk.2 c5
        have hr := (if_neg c5).symm.trans hr
        refine lv_aload_n (pc := 24) hx hb d_QC_lie_24 rfl (lv_at hl 0 rfl) ?_
        refine z_get (pc := 25) (v := .ref (ad (24, 0, 0))) hF hK.1 hW tq1 rfl rfl in_QC 2 (by decide) gw_346 rfl rfl d_QC_lie_25 ?_
        refine lv_iload (pc := 28) hx hb d_QC_lie_28 (lv_at hl 4 rfl) ?_
        obtain ⟨r36, er36⟩ : ∃ z : Int32, z = f_Transactions_exists a4 S := ⟨_, rfl⟩
        have hk := lt_p er36 hk
        have hr := lt_e er36 hr
        refine p_go (pc := 30) (congrArg Value.int er36) (p_runV hF hK hW (c_Transactions_exists l D X ad ca a4 S _) cd_Transactions_exists gw_604 tq24 rfl rfl ⟨Nat.le_of_ble_eq_true rfl, Nat.le_of_ble_eq_true rfl⟩ ⟨Nat.zero_le _, Nat.zero_le _⟩ rfl rfl hl.1 (Nat.le_of_ble_eq_true rfl) d_QC_lie_30) ?_
        refine lv_if_ne (pc := 33) (tgt := 46) hx hb d_QC_lie_33 (by decide) (fun c37 => ?_) (fun c37 => ?_)
        · have hk := hk.2 c37
          have hr := (if_neg c37).symm.trans hr
          refine lv_iload_n (pc := 46) hx hb d_QC_lie_46 rfl (lv_at hl 2 rfl) ?_
          refine lv_iconst (pc := 47) (v := 1) hx hb d_QC_lie_47 (by decide) ?_
          refine lv_icmp_lt (pc := 48) (tgt := 65) hx hb d_QC_lie_48 (by decide) (fun c38 => ?_) (fun c38 => ?_)
          · have hk := hk.1 c38
            have hr := (if_pos c38).symm.trans hr
            exact x_throw (pc := 65) (k := 1) (text := "not a view of the lying node") (cls := xIA) htr hF hy.2.2.1 hX hno hl.1 (congrArg Prod.fst hr.symm) (by decide) rfl xfA xatA (by decide +kernel) gw_509 gw_510 gw_67 (Nat.le_of_ble_eq_true rfl) (Nat.le_of_ble_eq_true rfl) ⟨rfl, rfl⟩ d_QC_lie_65 d_QC_lie_68 d_QC_lie_69 d_QC_lie_71 d_QC_lie_74
          · have hk := hk.2 c38
            have hr := (if_neg c38).symm.trans hr
            refine lv_iload_n (pc := 51) hx hb d_QC_lie_51 rfl (lv_at hl 2 rfl) ?_
            refine lv_bipush (pc := 52) (v := 60) hx hb d_QC_lie_52 (by decide) ?_
            refine lv_icmp_gt (pc := 54) (tgt := 65) hx hb d_QC_lie_54 (by decide) (fun c39 => ?_) (fun c39 => ?_)
            · have hk := hk.1 c39
              have hr := (if_pos c39).symm.trans hr
              exact x_throw (pc := 65) (k := 1) (text := "not a view of the lying node") (cls := xIA) htr hF hy.2.2.1 hX hno hl.1 (congrArg Prod.fst hr.symm) (by decide) rfl xfA xatA (by decide +kernel) gw_509 gw_510 gw_67 (Nat.le_of_ble_eq_true rfl) (Nat.le_of_ble_eq_true rfl) ⟨rfl, rfl⟩ d_QC_lie_65 d_QC_lie_68 d_QC_lie_69 d_QC_lie_71 d_QC_lie_74
            · have hk := hk.2 c39
              have hr := (if_neg c39).symm.trans hr
              refine lv_iload_n (pc := 57) hx hb d_QC_lie_57 rfl (lv_at hl 2 rfl) ?_
              obtain ⟨r40, er40⟩ : ∃ z : Int32, z = f_QC_leaderOf a2 S := ⟨_, rfl⟩
              have hk := lt_p er40 hk
              have hr := lt_e er40 hr
              refine p_go (pc := 58) (congrArg Value.int er40) (p_runS hF hK hW (c_QC_leaderOf l D X ad ca a2 S _) cd_QC_leaderOf gw_670 ⟨Nat.le_of_ble_eq_true rfl, Nat.le_of_ble_eq_true rfl⟩ ⟨Nat.zero_le _, Nat.zero_le _⟩ rfl rfl hl.1 (Nat.le_of_ble_eq_true rfl) d_QC_lie_58) ?_
              refine lv_iconst (pc := 61) (v := 3) hx hb d_QC_lie_61 (by decide) ?_
              refine lv_icmp_eq (pc := 62) (tgt := 75) hx hb d_QC_lie_62 (by decide) (fun c41 => ?_) (fun c41 => ?_)
              · have hk := hk.1 c41
                have hr := (if_pos c41).symm.trans hr
                refine lv_aload_n (pc := 75) hx hb d_QC_lie_75 rfl (lv_at hl 0 rfl) ?_
                refine z_get (pc := 76) (v := .ref (ad (2, 0, 0))) hF hK.1 hW tq1 rfl rfl in_QC 0 (by decide) gw_344 rfl rfl d_QC_lie_76 ?_
                refine lv_iconst (pc := 79) (v := 3) hx hb d_QC_lie_79 (by decide) ?_
                have b42 : vp_in (3 : Int32) 4 := by unfold vp_in; decide
                refine z_aald (pc := 80) (q := ad (3, 3, 0)) hF hK.1 hW tq2 3 rfl rfl b42 rfl d_QC_lie_80 ?_
                refine lv_astore (pc := 81) (lv' := [(5, .ref (ad (3, 3, 0))), (0, .ref (ad (1, 0, 0))), (1, .int a1), (2, .int a2), (3, .int a3), (4, .int a4)]) hx hb d_QC_lie_81 hl (by decide) rfl (fun ls hl => ?_)
                refine lv_aload (pc := 83) hx hb d_QC_lie_83 (lv_at hl 0 rfl) ?_
                refine z_get (pc := 85) (v := .int (S.1 3 3 0 7)) hF hK.1 hW (tq3 (vin4 b42)) rfl rfl in_Node 7 (by decide) gw_310 rfl rfl d_QC_lie_85 ?_
                refine lv_if_eq (pc := 88) (tgt := 117) hx hb d_QC_lie_88 (by decide) (fun c43 => ?_) (fun c43 => ?_)
                · have hk := hk.1 c43
                  have hr := (if_pos c43).symm.trans hr
                  exact x_throw (pc := 117) (k := 2) (text := "the lying node is down, has no key or not the parent") (cls := xIS) htr hF hy.2.2.1 hX hno hl.1 (congrArg Prod.fst hr.symm) (by decide) rfl xfS xatS (by decide +kernel) gw_577 gw_578 gw_68 (Nat.le_of_ble_eq_true rfl) (Nat.le_of_ble_eq_true rfl) ⟨rfl, rfl⟩ d_QC_lie_117 d_QC_lie_120 d_QC_lie_121 d_QC_lie_123 d_QC_lie_126
                · have hk := hk.2 c43
                  have hr := (if_neg c43).symm.trans hr
                  refine lv_aload (pc := 91) hx hb d_QC_lie_91 (lv_at hl 0 rfl) ?_
                  refine z_get (pc := 93) (v := .ref (ad (4, 3, 0))) hF hK.1 hW (tq3 (vin4 b42)) rfl rfl in_Node 1 (by decide) gw_298 rfl rfl d_QC_lie_93 ?_
                  refine z_get (pc := 96) (v := .ref (ad (10, 3, 0))) hF hK.1 hW (tq4 (vin4 b42)) rfl rfl in_Store 3 (by decide) gw_270 rfl rfl d_QC_lie_96 ?_
                  obtain ⟨r44, er44⟩ : ∃ z : Int32, z = f_KeyTree_isLeft 3 S := ⟨_, rfl⟩
                  have hk := lt_p er44 hk
                  have hr := lt_e er44 hr
                  refine p_go (pc := 99) (congrArg Value.int er44) (p_runV hF hK hW (c_KeyTree_isLeft l D X ad ca 3 (vin4 b42) S _) cd_KeyTree_isLeft gw_801 (tq10 (vin4 b42)) rfl rfl ⟨Nat.le_of_ble_eq_true rfl, Nat.le_of_ble_eq_true rfl⟩ ⟨Nat.zero_le _, Nat.zero_le _⟩ rfl rfl hl.1 (Nat.le_of_ble_eq_true rfl) d_QC_lie_99) ?_
                  refine lv_if_eq (pc := 102) (tgt := 117) hx hb d_QC_lie_102 (by decide) (fun c45 => ?_) (fun c45 => ?_)
                  · have hk := hk.1 c45
                    have hr := (if_pos c45).symm.trans hr
                    exact x_throw (pc := 117) (k := 2) (text := "the lying node is down, has no key or not the parent") (cls := xIS) htr hF hy.2.2.1 hX hno hl.1 (congrArg Prod.fst hr.symm) (by decide) rfl xfS xatS (by decide +kernel) gw_577 gw_578 gw_68 (Nat.le_of_ble_eq_true rfl) (Nat.le_of_ble_eq_true rfl) ⟨rfl, rfl⟩ d_QC_lie_117 d_QC_lie_120 d_QC_lie_121 d_QC_lie_123 d_QC_lie_126
                  · have hk := hk.2 c45
                    have hr := (if_neg c45).symm.trans hr
                    refine lv_aload (pc := 105) hx hb d_QC_lie_105 (lv_at hl 0 rfl) ?_
                    refine z_get (pc := 107) (v := .ref (ad (4, 3, 0))) hF hK.1 hW (tq3 (vin4 b42)) rfl rfl in_Node 1 (by decide) gw_298 rfl rfl d_QC_lie_107 ?_
                    refine lv_iload_n (pc := 110) hx hb d_QC_lie_110 rfl (lv_at hl 4 rfl) ?_
                    have o46 := hk.1
                    have hk := hk.2
                    obtain ⟨r47, er47⟩ : ∃ z : Int32, z = f_Store_hasBlock 3 a3 S := ⟨_, rfl⟩
                    have hk := lt_p er47 hk
                    have hr := lt_e er47 hr
                    refine p_go (pc := 111) (congrArg Value.int er47) (p_runV hF hK hW (c_Store_hasBlock l D X ad ca 3 a3 (vin4 b42) S o46 _) cd_Store_hasBlock gw_477 (tq4 (vin4 b42)) rfl rfl ⟨Nat.le_of_ble_eq_true rfl, Nat.le_of_ble_eq_true rfl⟩ ⟨Nat.zero_le _, Nat.zero_le _⟩ rfl rfl hl.1 (Nat.le_of_ble_eq_true rfl) d_QC_lie_111) ?_
                    refine lv_if_ne (pc := 114) (tgt := 127) hx hb d_QC_lie_114 (by decide) (fun c48 => ?_) (fun c48 => ?_)
                    · have hk := hk.2 c48
                      have hr := (if_neg c48).symm.trans hr
                      refine lv_aload_n (pc := 127) hx hb d_QC_lie_127 rfl (lv_at hl 1 rfl) ?_
                      refine z_get (pc := 128) (v := .ref (ad (19, 0, 0))) hF hK.1 hW tq1 rfl rfl in_QC 1 (by decide) gw_345 rfl rfl d_QC_lie_128 ?_
                      refine lv_iload_n (pc := 131) hx hb d_QC_lie_131 rfl (lv_at hl 4 rfl) ?_
                      have o49 := hk.1
                      have hk := hk.2
                      obtain ⟨r50, er50⟩ : ∃ z : Int32, z = f_Blocks_isCertified a3 S := ⟨_, rfl⟩
                      have hk := lt_p er50 hk
                      have hr := lt_e er50 hr
                      refine p_go (pc := 132) (congrArg Value.int er50) (p_runV hF hK hW (c_Blocks_isCertified l D X ad ca a3 S o49 _) cd_Blocks_isCertified gw_469 tq19 rfl rfl ⟨Nat.le_of_ble_eq_true rfl, Nat.le_of_ble_eq_true rfl⟩ ⟨Nat.zero_le _, Nat.zero_le _⟩ rfl rfl hl.1 (Nat.le_of_ble_eq_true rfl) d_QC_lie_132) ?_
                      refine lv_if_eq (pc := 135) (tgt := 162) hx hb d_QC_lie_135 (by decide) (fun c51 => ?_) (fun c51 => ?_)
                      · have hk := hk.1 c51
                        have hr := (if_pos c51).symm.trans hr
                        exact x_throw (pc := 162) (k := 2) (text := "not a parent for that view, or no room for a block") (cls := xIS) htr hF hy.2.2.1 hX hno hl.1 (congrArg Prod.fst hr.symm) (by decide) rfl xfS xatS (by decide +kernel) gw_577 gw_578 gw_68 (Nat.le_of_ble_eq_true rfl) (Nat.le_of_ble_eq_true rfl) ⟨rfl, rfl⟩ d_QC_lie_162 d_QC_lie_165 d_QC_lie_166 d_QC_lie_168 d_QC_lie_171
                      · have hk := hk.2 c51
                        have hr := (if_neg c51).symm.trans hr
                        refine lv_aload_n (pc := 138) hx hb d_QC_lie_138 rfl (lv_at hl 1 rfl) ?_
                        refine z_get (pc := 139) (v := .ref (ad (19, 0, 0))) hF hK.1 hW tq1 rfl rfl in_QC 1 (by decide) gw_345 rfl rfl d_QC_lie_139 ?_
                        refine lv_iload_n (pc := 142) hx hb d_QC_lie_142 rfl (lv_at hl 4 rfl) ?_
                        have o52 := hk.1
                        have hk := hk.2
                        obtain ⟨r53, er53⟩ : ∃ z : Int32, z = f_Blocks_viewOf a3 S := ⟨_, rfl⟩
                        have hk := lt_p er53 hk
                        have hr := lt_e er53 hr
                        refine p_go (pc := 143) (congrArg Value.int er53) (p_runV hF hK hW (c_Blocks_viewOf l D X ad ca a3 S o52 _) cd_Blocks_viewOf gw_456 tq19 rfl rfl ⟨Nat.le_of_ble_eq_true rfl, Nat.le_of_ble_eq_true rfl⟩ ⟨Nat.zero_le _, Nat.zero_le _⟩ rfl rfl hl.1 (Nat.le_of_ble_eq_true rfl) d_QC_lie_143) ?_
                        refine lv_iload_n (pc := 146) hx hb d_QC_lie_146 rfl (lv_at hl 3 rfl) ?_
                        refine lv_icmp_ge (pc := 147) (tgt := 162) hx hb d_QC_lie_147 (by decide) (fun c54 => ?_) (fun c54 => ?_)
                        · have hk := hk.1 c54
                          have hr := (if_pos c54).symm.trans hr
                          exact x_throw (pc := 162) (k := 2) (text := "not a parent for that view, or no room for a block") (cls := xIS) htr hF hy.2.2.1 hX hno hl.1 (congrArg Prod.fst hr.symm) (by decide) rfl xfS xatS (by decide +kernel) gw_577 gw_578 gw_68 (Nat.le_of_ble_eq_true rfl) (Nat.le_of_ble_eq_true rfl) ⟨rfl, rfl⟩ d_QC_lie_162 d_QC_lie_165 d_QC_lie_166 d_QC_lie_168 d_QC_lie_171
                        · have hk := hk.2 c54
                          have hr := (if_neg c54).symm.trans hr
                          refine lv_aload_n (pc := 150) hx hb d_QC_lie_150 rfl (lv_at hl 1 rfl) ?_
                          refine z_get (pc := 151) (v := .ref (ad (19, 0, 0))) hF hK.1 hW tq1 rfl rfl in_QC 1 (by decide) gw_345 rfl rfl d_QC_lie_151 ?_
                          refine z_get (pc := 154) (v := .int (S.1 19 0 0 4)) hF hK.1 hW tq19 rfl rfl in_Blocks 4 (by decide) gw_93 rfl rfl d_QC_lie_154 ?_
                          refine lv_bipush (pc := 157) (v := 100) hx hb d_QC_lie_157 (by decide) ?_
                          refine lv_icmp_lt (pc := 159) (tgt := 172) hx hb d_QC_lie_159 (by decide) (fun c55 => ?_) (fun c55 => ?_)
                          · have hk := hk.1 c55
                            have hr := (if_pos c55).symm.trans hr
                            refine lv_aload_n (pc := 172) hx hb d_QC_lie_172 rfl (lv_at hl 1 rfl) ?_
                            refine z_get (pc := 173) (v := .ref (ad (19, 0, 0))) hF hK.1 hW tq1 rfl rfl in_QC 1 (by decide) gw_345 rfl rfl d_QC_lie_173 ?_
                            refine lv_iload_n (pc := 176) hx hb d_QC_lie_176 rfl (lv_at hl 3 rfl) ?_
                            refine lv_iload_n (pc := 177) hx hb d_QC_lie_177 rfl (lv_at hl 4 rfl) ?_
                            refine lv_iload (pc := 178) hx hb d_QC_lie_178 (lv_at hl 5 rfl) ?_
                            have o56 := hk.1
                            have hk := hk.2
                            obtain ⟨r57, er57⟩ : ∃ z : Int32 × St, z = f_Blocks_add a2 a3 a4 S := ⟨_, rfl⟩
                            have hk := lt_p er57 hk
                            have hr := lt_e er57 hr
                            refine z_goI (pc := 180) hW hA (show (r57.1, r57.2) = _ from er57) (z_runV hF hK hW (c_Blocks_add l D X ad ca a2 a3 a4 S o56 _) cd_Blocks_add gw_636 tq19 rfl rfl ⟨Nat.le_of_ble_eq_true rfl, Nat.le_of_ble_eq_true rfl⟩ ⟨Nat.zero_le _, Nat.zero_le _⟩ rfl rfl hl.1 (Nat.le_of_ble_eq_true rfl) d_QC_lie_180) (fun H locs (hW : Wd D clQ A s.heap (zw X ad TQ (cfQ ad ca) r57.2) H locs) => ?_)
                            refine lv_istore (pc := 183) (lv' := [(6, .int r57.1), (5, .ref (ad (3, 3, 0))), (0, .ref (ad (1, 0, 0))), (1, .int a1), (2, .int a2), (3, .int a3), (4, .int a4)]) hx hb d_QC_lie_183 hl (by decide) rfl (fun ls hl => ?_)
                            refine lv_aload (pc := 185) hx hb d_QC_lie_185 (lv_at hl 1 rfl) ?_
                            refine z_get (pc := 187) (v := .ref (ad (4, 3, 0))) hF hK.1 hW (tq3 (vin4 b42)) rfl rfl in_Node 1 (by decide) gw_298 rfl rfl d_QC_lie_187 ?_
                            refine lv_iload (pc := 190) hx hb d_QC_lie_190 (lv_at hl 0 rfl) ?_
                            have o58 := hk.1
                            have hk := hk.2
                            obtain ⟨S60, eS60⟩ : ∃ z : St, z = f_Store_keepBlock 3 r57.1 r57.2 := ⟨_, rfl⟩
                            have hk := lt_p eS60 hk
                            have hr := lt_e eS60 hr
                            refine z_goV (pc := 192) hW hA eS60 (z_runV hF hK hW (c_Store_keepBlock l D X ad ca 3 r57.1 (vin4 b42) r57.2 o58 _) cd_Store_keepBlock gw_640 (tq4 (vin4 b42)) rfl rfl ⟨Nat.le_of_ble_eq_true rfl, Nat.le_of_ble_eq_true rfl⟩ ⟨Nat.zero_le _, Nat.zero_le _⟩ rfl rfl hl.1 (Nat.le_of_ble_eq_true rfl) d_QC_lie_192) (fun H locs (hW : Wd D clQ A s.heap (zw X ad TQ (cfQ ad ca) S60) H locs) => ?_)
                            refine lv_aload_n (pc := 195) hx hb d_QC_lie_195 rfl (lv_at hl 2 rfl) ?_
                            refine lv_aload (pc := 196) hx hb d_QC_lie_196 (lv_at hl 1 rfl) ?_
                            refine lv_iconst (pc := 198) (v := 1) hx hb d_QC_lie_198 (by decide) ?_
                            refine lv_iload (pc := 199) hx hb d_QC_lie_199 (lv_at hl 0 rfl) ?_
                            refine lv_iconst (pc := 201) (v := 0) hx hb d_QC_lie_201 (by decide) ?_
                            have o61 := hk.1
                            have hk := hk.2
                            obtain ⟨r62, er62⟩ : ∃ z : Int32 × St, z = f_QC_writeSigned 3 (1 : Int32) r57.1 (0 : Int32) S60 := ⟨_, rfl⟩
                            have hk := lt_p er62 hk
                            have hr := lt_e er62 hr
                            refine z_goI (pc := 202) hW hA (show (r62.1, r62.2) = _ from er62) (z_runV hF hK hW (c_QC_writeSigned l D X ad ca 3 (1 : Int32) r57.1 (0 : Int32) (vin4 b42) S60 o61 _) cd_QC_writeSigned gw_377 tq1 rfl rfl ⟨Nat.le_of_ble_eq_true rfl, Nat.le_of_ble_eq_true rfl⟩ ⟨Nat.zero_le _, Nat.zero_le _⟩ rfl rfl hl.1 (Nat.le_of_ble_eq_true rfl) d_QC_lie_202) (fun H locs (hW : Wd D clQ A s.heap (zw X ad TQ (cfQ ad ca) r62.2) H locs) => ?_)
                            refine lv_if_eq (pc := 205) (tgt := 224) hx hb d_QC_lie_205 (by decide) (fun c63 => ?_) (fun c63 => ?_)
                            · have hk := hk.1 c63
                              have hr := (if_pos c63).symm.trans hr
                              refine lv_iload (pc := 224) hx hb d_QC_lie_224 (lv_at hl 0 rfl) ?_
                              exact x_iret (v := r57.1) hy hW hr.symm d_QC_lie_226
                            · have hk := hk.2 c63
                              have hr := (if_neg c63).symm.trans hr
                              refine lv_aload_n (pc := 208) hx hb d_QC_lie_208 rfl (lv_at hl 2 rfl) ?_
                              refine z_get (pc := 209) (v := .ref (ad (2, 0, 0))) hF hK.1 hW tq1 rfl rfl in_QC 0 (by decide) gw_344 rfl rfl d_QC_lie_209 ?_
                              refine lv_iload_n (pc := 212) hx hb d_QC_lie_212 rfl (lv_at hl 3 rfl) ?_
                              have b64 := hk.1
                              have hk := hk.2
                              refine z_aald (pc := 213) (q := ad (3, (a1.toNatClampNeg), 0)) hF hK.1 hW tq2 3 rfl rfl b64 rfl d_QC_lie_213 ?_
                              refine z_get (pc := 214) (v := .ref (ad (12, (a1.toNatClampNeg), 0))) hF hK.1 hW (tq3 (vin4 b64)) rfl rfl in_Node 2 (by decide) gw_300 rfl rfl d_QC_lie_214 ?_
                              refine lv_aload_n (pc := 217) hx hb d_QC_lie_217 rfl (lv_at hl 2 rfl) ?_
                              refine z_get (pc := 218) (v := .ref (ad (14, 4, 0))) hF hK.1 hW tq1 rfl rfl in_QC 3 (by decide) gw_347 rfl rfl d_QC_lie_218 ?_
                              have o65 := hk.1
                              have hk := hk.2
                              obtain ⟨S67, eS67⟩ : ∃ z : St, z = f_Inbox_add (a1.toNatClampNeg) 4 0 r62.2 := ⟨_, rfl⟩
                              have hr := lt_e eS67 hr
                              refine z_goV (pc := 221) hW hA eS67 (z_runV hF hK hW (c_Inbox_add l D X ad ca (a1.toNatClampNeg) 4 0 (vin4 b64) inM_D r62.2 o65 _) cd_Inbox_add gw_411 (tq12 (vin4 b64)) rfl rfl ⟨Nat.le_of_ble_eq_true rfl, Nat.le_of_ble_eq_true rfl⟩ ⟨Nat.zero_le _, Nat.zero_le _⟩ rfl rfl hl.1 (Nat.le_of_ble_eq_true rfl) d_QC_lie_221) (fun H locs (hW : Wd D clQ A s.heap (zw X ad TQ (cfQ ad ca) S67) H locs) => ?_)
                              refine lv_iload (pc := 224) hx hb d_QC_lie_224 (lv_at hl 0 rfl) ?_
                              exact x_iret (v := r57.1) hy hW hr.symm d_QC_lie_226
                          · have hk := hk.2 c55
                            have hr := (if_neg c55).symm.trans hr
                            exact x_throw (pc := 162) (k := 2) (text := "not a parent for that view, or no room for a block") (cls := xIS) htr hF hy.2.2.1 hX hno hl.1 (congrArg Prod.fst hr.symm) (by decide) rfl xfS xatS (by decide +kernel) gw_577 gw_578 gw_68 (Nat.le_of_ble_eq_true rfl) (Nat.le_of_ble_eq_true rfl) ⟨rfl, rfl⟩ d_QC_lie_162 d_QC_lie_165 d_QC_lie_166 d_QC_lie_168 d_QC_lie_171
                    · have hk := hk.1 c48
                      have hr := (if_pos c48).symm.trans hr
                      exact x_throw (pc := 117) (k := 2) (text := "the lying node is down, has no key or not the parent") (cls := xIS) htr hF hy.2.2.1 hX hno hl.1 (congrArg Prod.fst hr.symm) (by decide) rfl xfS xatS (by decide +kernel) gw_577 gw_578 gw_68 (Nat.le_of_ble_eq_true rfl) (Nat.le_of_ble_eq_true rfl) ⟨rfl, rfl⟩ d_QC_lie_117 d_QC_lie_120 d_QC_lie_121 d_QC_lie_123 d_QC_lie_126
              · have hk := hk.2 c41
                have hr := (if_neg c41).symm.trans hr
                exact x_throw (pc := 65) (k := 1) (text := "not a view of the lying node") (cls := xIA) htr hF hy.2.2.1 hX hno hl.1 (congrArg Prod.fst hr.symm) (by decide) rfl xfA xatA (by decide +kernel) gw_509 gw_510 gw_67 (Nat.le_of_ble_eq_true rfl) (Nat.le_of_ble_eq_true rfl) ⟨rfl, rfl⟩ d_QC_lie_65 d_QC_lie_68 d_QC_lie_69 d_QC_lie_71 d_QC_lie_74
        · have hk := hk.1 c37
          have hr := (if_pos c37).symm.trans hr
          exact x_throw (pc := 36) (k := 1) (text := "no such node, block or transaction") (cls := xIA) htr hF hy.2.2.1 hX hno hl.1 (congrArg Prod.fst hr.symm) (by decide) rfl xfA xatA (by decide +kernel) gw_509 gw_510 gw_67 (Nat.le_of_ble_eq_true rfl) (Nat.le_of_ble_eq_true rfl) ⟨rfl, rfl⟩ d_QC_lie_36 d_QC_lie_39 d_QC_lie_40 d_QC_lie_42 d_QC_lie_45
