section RD
variable {r ρ ρ1 ρ2 ρ3 ρa : Nat → Nat → Int32} {B : Nat} {M : Nat → Int32} {L : Nat → Nat}
theorem PJ_83 (h : PJ r M L ρ) (h1 : ∀ k, k ≠ 1083 → ρ1 k = ρ k) : PJ r M L ρ1 := by
  obtain ⟨⟨a, b, c, d, e⟩, g⟩ := h
  refine ⟨⟨fun k hk => by rw [h1 k (by omega)]; exact a k hk, by rw [h1 _ (by decide)]; exact b, by rw [h1 1076 (by decide), h1 1079 (by decide)]; exact c, by rw [h1 1081 (by decide), h1 1082 (by decide)]; exact d, by rw [h1 1085 (by decide), h1 1086 (by decide), h1 1087 (by decide), h1 1088 (by decide), h1 1089 (by decide)]; exact e⟩, by rw [h1 _ (by decide)]; exact g⟩
theorem G_83 (h : Good B M L X0 (ρ 1078)) (h2 : ∀ j, j < 695 → ρ1 1083 (0 + j) = ρ 1078 (0 + j)) : Good B M L X0 (fun j => ρ1 1083 (0 + j)) := Good_ext h (fun j hj => (h2 j hj).trans (by rw [Nat.zero_add]))
theorem PJ_restore (h : PI r ρa) (hG : Good 99998 M L X0 (fun j => ρa 1083 (0 + j))) (hT : TI ρa B M L 0 0 0 0 0 2 0 ρ2) (h1 : ∀ k, k ≠ 1078 → ρ3 k = ρ2 k) (h2 : ∀ j, j < 695 → ρ3 1078 (0 + j) = ρ2 1083 (0 + j)) : PJ r M L ρ3 := by
  have g : Good 99998 M L X0 (ρ3 1078) := Good_ext hG (fun j hj => by have z := h2 j hj; rw [hT.1 1083 (by decide) (by decide) (by decide), Nat.zero_add] at z; rw [z, Nat.zero_add])
  exact ⟨PI_TI h hT ⟨M, L, g⟩ (fun k a _ => h1 k a), g⟩
def PD (r : Nat → Nat → Int32) (M : Nat → Int32) (L : Nat → Nat) (B : Nat) (ρ : Nat → Nat → Int32) : Prop := ∃ ra, PI r ra ∧ Good 99998 M L X0 (fun j => ra 1083 (0 + j)) ∧ TI ra B M L 0 0 0 0 0 2 0 ρ
end RD
theorem dX7_ahead_0 : decode cX7_ahead 0 = .ok (.aload_n 0, 1) := by decide +kernel
theorem dX7_ahead_1 : decode cX7_ahead 1 = .ok (.iconst 0, 1) := by decide +kernel
theorem dX7_ahead_2 : decode cX7_ahead 2 = .ok (.putfield 50, 3) := by decide +kernel
theorem dX7_ahead_5 : decode cX7_ahead 5 = .ok (.aload_n 0, 1) := by decide +kernel
theorem dX7_ahead_6 : decode cX7_ahead 6 = .ok (.iload_n 1, 1) := by decide +kernel
theorem dX7_ahead_7 : decode cX7_ahead 7 = .ok (.invokevirtual 78, 3) := by decide +kernel
theorem dX7_ahead_10 : decode cX7_ahead 10 = .ok (.ifCond .eq 11, 3) := by decide +kernel
theorem dX7_ahead_13 : decode cX7_ahead 13 = .ok (.aload_n 0, 1) := by decide +kernel
theorem dX7_ahead_14 : decode cX7_ahead 14 = .ok (.iload_n 2, 1) := by decide +kernel
theorem dX7_ahead_15 : decode cX7_ahead 15 = .ok (.invokevirtual 263, 3) := by decide +kernel
theorem dX7_ahead_18 : decode cX7_ahead 18 = .ok (.ifCond .ne 5, 3) := by decide +kernel
theorem dX7_ahead_21 : decode cX7_ahead 21 = .ok (.iconst (-1), 1) := by decide +kernel
theorem dX7_ahead_22 : decode cX7_ahead 22 = .ok (.ireturn, 1) := by decide +kernel
theorem dX7_ahead_23 : decode cX7_ahead 23 = .ok (.aload_n 0, 1) := by decide +kernel
theorem dX7_ahead_24 : decode cX7_ahead 24 = .ok (.getfield 13, 3) := by decide +kernel
theorem dX7_ahead_27 : decode cX7_ahead 27 = .ok (.iconst 0, 1) := by decide +kernel
theorem dX7_ahead_28 : decode cX7_ahead 28 = .ok (.aload_n 0, 1) := by decide +kernel
theorem dX7_ahead_29 : decode cX7_ahead 29 = .ok (.getfield 29, 3) := by decide +kernel
theorem dX7_ahead_32 : decode cX7_ahead 32 = .ok (.iconst 0, 1) := by decide +kernel
theorem dX7_ahead_33 : decode cX7_ahead 33 = .ok (.invokestatic 60, 3) := by decide +kernel
theorem dX7_ahead_36 : decode cX7_ahead 36 = .ok (.aload_n 0, 1) := by decide +kernel
theorem dX7_ahead_37 : decode cX7_ahead 37 = .ok (.iload_n 2, 1) := by decide +kernel
theorem dX7_ahead_38 : decode cX7_ahead 38 = .ok (.invokevirtual 242, 3) := by decide +kernel
theorem dX7_ahead_41 : decode cX7_ahead 41 = .ok (.aload_n 0, 1) := by decide +kernel
theorem dX7_ahead_42 : decode cX7_ahead 42 = .ok (.getfield 29, 3) := by decide +kernel
theorem dX7_ahead_45 : decode cX7_ahead 45 = .ok (.iconst 0, 1) := by decide +kernel
theorem dX7_ahead_46 : decode cX7_ahead 46 = .ok (.aload_n 0, 1) := by decide +kernel
theorem dX7_ahead_47 : decode cX7_ahead 47 = .ok (.getfield 13, 3) := by decide +kernel
theorem dX7_ahead_50 : decode cX7_ahead 50 = .ok (.iconst 0, 1) := by decide +kernel
theorem dX7_ahead_51 : decode cX7_ahead 51 = .ok (.invokestatic 60, 3) := by decide +kernel
theorem dX7_ahead_54 : decode cX7_ahead 54 = .ok (.aload_n 0, 1) := by decide +kernel
theorem dX7_ahead_55 : decode cX7_ahead 55 = .ok (.getfield 32, 3) := by decide +kernel
theorem dX7_ahead_58 : decode cX7_ahead 58 = .ok (.iload_n 1, 1) := by decide +kernel
theorem dX7_ahead_59 : decode cX7_ahead 59 = .ok (.iaload, 1) := by decide +kernel
theorem dX7_ahead_60 : decode cX7_ahead 60 = .ok (.ireturn, 1) := by decide +kernel
theorem dX7_drain_0 : decode cX7_drain 0 = .ok (.aload_n 0, 1) := by decide +kernel
theorem dX7_drain_1 : decode cX7_drain 1 = .ok (.iconst 0, 1) := by decide +kernel
theorem dX7_drain_2 : decode cX7_drain 2 = .ok (.putfield 50, 3) := by decide +kernel
theorem dX7_drain_5 : decode cX7_drain 5 = .ok (.aload_n 0, 1) := by decide +kernel
theorem dX7_drain_6 : decode cX7_drain 6 = .ok (.iload_n 1, 1) := by decide +kernel
theorem dX7_drain_7 : decode cX7_drain 7 = .ok (.iload_n 2, 1) := by decide +kernel
theorem dX7_drain_8 : decode cX7_drain 8 = .ok (.invokevirtual 106, 3) := by decide +kernel
theorem dX7_drain_11 : decode cX7_drain 11 = .ok (.ifCond .ne 5, 3) := by decide +kernel
theorem dX7_drain_14 : decode cX7_drain 14 = .ok (.iconst (-1), 1) := by decide +kernel
theorem dX7_drain_15 : decode cX7_drain 15 = .ok (.ireturn, 1) := by decide +kernel
theorem dX7_drain_16 : decode cX7_drain 16 = .ok (.aload_n 0, 1) := by decide +kernel
theorem dX7_drain_17 : decode cX7_drain 17 = .ok (.getfield 13, 3) := by decide +kernel
theorem dX7_drain_20 : decode cX7_drain 20 = .ok (.iconst 0, 1) := by decide +kernel
theorem dX7_drain_21 : decode cX7_drain 21 = .ok (.aload_n 0, 1) := by decide +kernel
theorem dX7_drain_22 : decode cX7_drain 22 = .ok (.getfield 29, 3) := by decide +kernel
theorem dX7_drain_25 : decode cX7_drain 25 = .ok (.iconst 0, 1) := by decide +kernel
theorem dX7_drain_26 : decode cX7_drain 26 = .ok (.invokestatic 60, 3) := by decide +kernel
theorem dX7_drain_29 : decode cX7_drain 29 = .ok (.iconst 0, 1) := by decide +kernel
theorem dX7_drain_30 : decode cX7_drain 30 = .ok (.istore_n 3, 1) := by decide +kernel
theorem dX7_drain_31 : decode cX7_drain 31 = .ok (.iload_n 3, 1) := by decide +kernel
theorem dX7_drain_32 : decode cX7_drain 32 = .ok (.sipush 400, 3) := by decide +kernel
theorem dX7_drain_35 : decode cX7_drain 35 = .ok (.if_icmp .ge 34, 3) := by decide +kernel
theorem dX7_drain_38 : decode cX7_drain 38 = .ok (.aload_n 0, 1) := by decide +kernel
theorem dX7_drain_39 : decode cX7_drain 39 = .ok (.getfield 13, 3) := by decide +kernel
theorem dX7_drain_42 : decode cX7_drain 42 = .ok (.bipush 7, 2) := by decide +kernel
theorem dX7_drain_44 : decode cX7_drain 44 = .ok (.iaload, 1) := by decide +kernel
theorem dX7_drain_45 : decode cX7_drain 45 = .ok (.ldc 241, 2) := by decide +kernel
theorem dX7_drain_47 : decode cX7_drain 47 = .ok (.if_icmp .ge 22, 3) := by decide +kernel
theorem dX7_drain_50 : decode cX7_drain 50 = .ok (.aload_n 0, 1) := by decide +kernel
theorem dX7_drain_51 : decode cX7_drain 51 = .ok (.iload_n 1, 1) := by decide +kernel
theorem dX7_drain_52 : decode cX7_drain 52 = .ok (.iload_n 2, 1) := by decide +kernel
theorem dX7_drain_53 : decode cX7_drain 53 = .ok (.invokevirtual 274, 3) := by decide +kernel
theorem dX7_drain_56 : decode cX7_drain 56 = .ok (.ifCond .ne 13, 3) := by decide +kernel
theorem dX7_drain_59 : decode cX7_drain 59 = .ok (.aload_n 0, 1) := by decide +kernel
theorem dX7_drain_60 : decode cX7_drain 60 = .ok (.invokevirtual 236, 3) := by decide +kernel
theorem dX7_drain_63 : decode cX7_drain 63 = .ok (.iinc 3 1, 3) := by decide +kernel
theorem dX7_drain_66 : decode cX7_drain 66 = .ok (.goto (-35), 3) := by decide +kernel
theorem dX7_drain_69 : decode cX7_drain 69 = .ok (.aload_n 0, 1) := by decide +kernel
theorem dX7_drain_70 : decode cX7_drain 70 = .ok (.iload_n 1, 1) := by decide +kernel
theorem dX7_drain_71 : decode cX7_drain 71 = .ok (.iload_n 2, 1) := by decide +kernel
theorem dX7_drain_72 : decode cX7_drain 72 = .ok (.invokevirtual 274, 3) := by decide +kernel
theorem dX7_drain_75 : decode cX7_drain 75 = .ok (.ifCond .eq 7, 3) := by decide +kernel
theorem dX7_drain_78 : decode cX7_drain 78 = .ok (.iload_n 3, 1) := by decide +kernel
theorem dX7_drain_79 : decode cX7_drain 79 = .ok (.goto 4, 3) := by decide +kernel
theorem dX7_drain_82 : decode cX7_drain 82 = .ok (.iconst (-1), 1) := by decide +kernel
theorem dX7_drain_83 : decode cX7_drain 83 = .ok (.istore 4, 2) := by decide +kernel
theorem dX7_drain_85 : decode cX7_drain 85 = .ok (.aload_n 0, 1) := by decide +kernel
theorem dX7_drain_86 : decode cX7_drain 86 = .ok (.getfield 29, 3) := by decide +kernel
theorem dX7_drain_89 : decode cX7_drain 89 = .ok (.iconst 0, 1) := by decide +kernel
theorem dX7_drain_90 : decode cX7_drain 90 = .ok (.aload_n 0, 1) := by decide +kernel
theorem dX7_drain_91 : decode cX7_drain 91 = .ok (.getfield 13, 3) := by decide +kernel
theorem dX7_drain_94 : decode cX7_drain 94 = .ok (.iconst 0, 1) := by decide +kernel
theorem dX7_drain_95 : decode cX7_drain 95 = .ok (.invokestatic 60, 3) := by decide +kernel
theorem dX7_drain_98 : decode cX7_drain 98 = .ok (.iload 4, 2) := by decide +kernel
theorem dX7_drain_100 : decode cX7_drain 100 = .ok (.ireturn, 1) := by decide +kernel
theorem dX7_tries_0 : decode cX7_tries 0 = .ok (.aload_n 0, 1) := by decide +kernel
theorem dX7_tries_1 : decode cX7_tries 1 = .ok (.getfield 13, 3) := by decide +kernel
theorem dX7_tries_4 : decode cX7_tries 4 = .ok (.iconst 0, 1) := by decide +kernel
theorem dX7_tries_5 : decode cX7_tries 5 = .ok (.aload_n 0, 1) := by decide +kernel
theorem dX7_tries_6 : decode cX7_tries 6 = .ok (.getfield 29, 3) := by decide +kernel
theorem dX7_tries_9 : decode cX7_tries 9 = .ok (.iconst 0, 1) := by decide +kernel
theorem dX7_tries_10 : decode cX7_tries 10 = .ok (.invokestatic 60, 3) := by decide +kernel
theorem dX7_tries_13 : decode cX7_tries 13 = .ok (.aload_n 0, 1) := by decide +kernel
theorem dX7_tries_14 : decode cX7_tries 14 = .ok (.getfield 13, 3) := by decide +kernel
theorem dX7_tries_17 : decode cX7_tries 17 = .ok (.bipush 9, 2) := by decide +kernel
theorem dX7_tries_19 : decode cX7_tries 19 = .ok (.iload_n 1, 1) := by decide +kernel
theorem dX7_tries_20 : decode cX7_tries 20 = .ok (.iastore, 1) := by decide +kernel
theorem dX7_tries_21 : decode cX7_tries 21 = .ok (.aload_n 0, 1) := by decide +kernel
theorem dX7_tries_22 : decode cX7_tries 22 = .ok (.iload_n 2, 1) := by decide +kernel
theorem dX7_tries_23 : decode cX7_tries 23 = .ok (.invokevirtual 242, 3) := by decide +kernel
theorem dX7_tries_26 : decode cX7_tries 26 = .ok (.iload_n 3, 1) := by decide +kernel
theorem dX7_tries_27 : decode cX7_tries 27 = .ok (.ifCond .ne 10, 3) := by decide +kernel
theorem dX7_tries_30 : decode cX7_tries 30 = .ok (.aload_n 0, 1) := by decide +kernel
theorem dX7_tries_31 : decode cX7_tries 31 = .ok (.getfield 189, 3) := by decide +kernel
theorem dX7_tries_34 : decode cX7_tries 34 = .ok (.goto 19, 3) := by decide +kernel
theorem dX7_tries_37 : decode cX7_tries 37 = .ok (.iload_n 3, 1) := by decide +kernel
theorem dX7_tries_38 : decode cX7_tries 38 = .ok (.iconst 1, 1) := by decide +kernel
theorem dX7_tries_39 : decode cX7_tries 39 = .ok (.if_icmp .ne 10, 3) := by decide +kernel
theorem dX7_tries_42 : decode cX7_tries 42 = .ok (.aload_n 0, 1) := by decide +kernel
theorem dX7_tries_43 : decode cX7_tries 43 = .ok (.getfield 233, 3) := by decide +kernel
theorem dX7_tries_46 : decode cX7_tries 46 = .ok (.goto 7, 3) := by decide +kernel
theorem dX7_tries_49 : decode cX7_tries 49 = .ok (.aload_n 0, 1) := by decide +kernel
theorem dX7_tries_50 : decode cX7_tries 50 = .ok (.invokevirtual 277, 3) := by decide +kernel
theorem dX7_tries_53 : decode cX7_tries 53 = .ok (.istore 4, 2) := by decide +kernel
theorem dX7_tries_55 : decode cX7_tries 55 = .ok (.aload_n 0, 1) := by decide +kernel
theorem dX7_tries_56 : decode cX7_tries 56 = .ok (.getfield 29, 3) := by decide +kernel
theorem dX7_tries_59 : decode cX7_tries 59 = .ok (.iconst 0, 1) := by decide +kernel
theorem dX7_tries_60 : decode cX7_tries 60 = .ok (.aload_n 0, 1) := by decide +kernel
theorem dX7_tries_61 : decode cX7_tries 61 = .ok (.getfield 13, 3) := by decide +kernel
theorem dX7_tries_64 : decode cX7_tries 64 = .ok (.iconst 0, 1) := by decide +kernel
theorem dX7_tries_65 : decode cX7_tries 65 = .ok (.invokestatic 60, 3) := by decide +kernel
theorem dX7_tries_68 : decode cX7_tries 68 = .ok (.iload 4, 2) := by decide +kernel
theorem dX7_tries_70 : decode cX7_tries 70 = .ok (.ireturn, 1) := by decide +kernel
theorem dX7_would_0 : decode cX7_would 0 = .ok (.aload_n 0, 1) := by decide +kernel
theorem dX7_would_1 : decode cX7_would 1 = .ok (.iconst 0, 1) := by decide +kernel
theorem dX7_would_2 : decode cX7_would 2 = .ok (.putfield 50, 3) := by decide +kernel
theorem dX7_would_5 : decode cX7_would 5 = .ok (.iload_n 1, 1) := by decide +kernel
theorem dX7_would_6 : decode cX7_would 6 = .ok (.invokestatic 138, 3) := by decide +kernel
theorem dX7_would_9 : decode cX7_would 9 = .ok (.ifCond .eq 33, 3) := by decide +kernel
theorem dX7_would_12 : decode cX7_would 12 = .ok (.aload_n 0, 1) := by decide +kernel
theorem dX7_would_13 : decode cX7_would 13 = .ok (.iload_n 2, 1) := by decide +kernel
theorem dX7_would_14 : decode cX7_would 14 = .ok (.invokevirtual 263, 3) := by decide +kernel
theorem dX7_would_17 : decode cX7_would 17 = .ok (.ifCond .eq 25, 3) := by decide +kernel
theorem dX7_would_20 : decode cX7_would 20 = .ok (.iload_n 3, 1) := by decide +kernel
theorem dX7_would_21 : decode cX7_would 21 = .ok (.i2l, 1) := by decide +kernel
theorem dX7_would_22 : decode cX7_would 22 = .ok (.lconst 0, 1) := by decide +kernel
theorem dX7_would_23 : decode cX7_would 23 = .ok (.ldc2_w 134, 3) := by decide +kernel
theorem dX7_would_26 : decode cX7_would 26 = .ok (.invokestatic 71, 3) := by decide +kernel
theorem dX7_would_29 : decode cX7_would 29 = .ok (.ifCond .eq 13, 3) := by decide +kernel
theorem dX7_would_32 : decode cX7_would 32 = .ok (.aload_n 0, 1) := by decide +kernel
theorem dX7_would_33 : decode cX7_would 33 = .ok (.iload_n 1, 1) := by decide +kernel
theorem dX7_would_34 : decode cX7_would 34 = .ok (.iload_n 2, 1) := by decide +kernel
theorem dX7_would_35 : decode cX7_would 35 = .ok (.iload_n 3, 1) := by decide +kernel
theorem dX7_would_36 : decode cX7_would 36 = .ok (.invokevirtual 280, 3) := by decide +kernel
theorem dX7_would_39 : decode cX7_would 39 = .ok (.goto 4, 3) := by decide +kernel
theorem dX7_would_42 : decode cX7_would 42 = .ok (.iconst (-1), 1) := by decide +kernel
theorem dX7_would_43 : decode cX7_would 43 = .ok (.ireturn, 1) := by decide +kernel
theorem dX7_bestShare_0 : decode cX7_bestShare 0 = .ok (.aload_n 0, 1) := by decide +kernel
theorem dX7_bestShare_1 : decode cX7_bestShare 1 = .ok (.iconst 0, 1) := by decide +kernel
theorem dX7_bestShare_2 : decode cX7_bestShare 2 = .ok (.putfield 50, 3) := by decide +kernel
theorem dX7_bestShare_5 : decode cX7_bestShare 5 = .ok (.iload_n 1, 1) := by decide +kernel
theorem dX7_bestShare_6 : decode cX7_bestShare 6 = .ok (.i2l, 1) := by decide +kernel
theorem dX7_bestShare_7 : decode cX7_bestShare 7 = .ok (.lconst 1, 1) := by decide +kernel
theorem dX7_bestShare_8 : decode cX7_bestShare 8 = .ok (.ldc2_w 132, 3) := by decide +kernel
theorem dX7_bestShare_11 : decode cX7_bestShare 11 = .ok (.invokestatic 71, 3) := by decide +kernel
theorem dX7_bestShare_14 : decode cX7_bestShare 14 = .ok (.ifCond .eq 11, 3) := by decide +kernel
theorem dX7_bestShare_17 : decode cX7_bestShare 17 = .ok (.aload_n 0, 1) := by decide +kernel
theorem dX7_bestShare_18 : decode cX7_bestShare 18 = .ok (.iload_n 1, 1) := by decide +kernel
theorem dX7_bestShare_19 : decode cX7_bestShare 19 = .ok (.invokevirtual 263, 3) := by decide +kernel
theorem dX7_bestShare_22 : decode cX7_bestShare 22 = .ok (.ifCond .ne 5, 3) := by decide +kernel
theorem dX7_bestShare_25 : decode cX7_bestShare 25 = .ok (.iconst (-1), 1) := by decide +kernel
theorem dX7_bestShare_26 : decode cX7_bestShare 26 = .ok (.ireturn, 1) := by decide +kernel
theorem dX7_bestShare_27 : decode cX7_bestShare 27 = .ok (.iconst (-1), 1) := by decide +kernel
theorem dX7_bestShare_28 : decode cX7_bestShare 28 = .ok (.istore_n 2, 1) := by decide +kernel
theorem dX7_bestShare_29 : decode cX7_bestShare 29 = .ok (.iconst (-1), 1) := by decide +kernel
theorem dX7_bestShare_30 : decode cX7_bestShare 30 = .ok (.istore_n 3, 1) := by decide +kernel
theorem dX7_bestShare_31 : decode cX7_bestShare 31 = .ok (.iconst 0, 1) := by decide +kernel
theorem dX7_bestShare_32 : decode cX7_bestShare 32 = .ok (.istore 4, 2) := by decide +kernel
theorem dX7_bestShare_34 : decode cX7_bestShare 34 = .ok (.iload 4, 2) := by decide +kernel
theorem dX7_bestShare_36 : decode cX7_bestShare 36 = .ok (.bipush 32, 2) := by decide +kernel
theorem dX7_bestShare_38 : decode cX7_bestShare 38 = .ok (.if_icmp .gt 45, 3) := by decide +kernel
theorem dX7_bestShare_41 : decode cX7_bestShare 41 = .ok (.aload_n 0, 1) := by decide +kernel
theorem dX7_bestShare_42 : decode cX7_bestShare 42 = .ok (.iload 4, 2) := by decide +kernel
theorem dX7_bestShare_44 : decode cX7_bestShare 44 = .ok (.iload_n 1, 1) := by decide +kernel
theorem dX7_bestShare_45 : decode cX7_bestShare 45 = .ok (.iconst 0, 1) := by decide +kernel
theorem dX7_bestShare_46 : decode cX7_bestShare 46 = .ok (.invokevirtual 280, 3) := by decide +kernel
theorem dX7_bestShare_49 : decode cX7_bestShare 49 = .ok (.istore 5, 2) := by decide +kernel
theorem dX7_bestShare_51 : decode cX7_bestShare 51 = .ok (.iload 5, 2) := by decide +kernel
theorem dX7_bestShare_53 : decode cX7_bestShare 53 = .ok (.iload_n 3, 1) := by decide +kernel
theorem dX7_bestShare_54 : decode cX7_bestShare 54 = .ok (.if_icmp .le 8, 3) := by decide +kernel
theorem dX7_bestShare_57 : decode cX7_bestShare 57 = .ok (.iload 4, 2) := by decide +kernel
theorem dX7_bestShare_59 : decode cX7_bestShare 59 = .ok (.goto 4, 3) := by decide +kernel
theorem dX7_bestShare_62 : decode cX7_bestShare 62 = .ok (.iload_n 2, 1) := by decide +kernel
theorem dX7_bestShare_63 : decode cX7_bestShare 63 = .ok (.istore_n 2, 1) := by decide +kernel
theorem dX7_bestShare_64 : decode cX7_bestShare 64 = .ok (.iload 5, 2) := by decide +kernel
theorem dX7_bestShare_66 : decode cX7_bestShare 66 = .ok (.iload_n 3, 1) := by decide +kernel
theorem dX7_bestShare_67 : decode cX7_bestShare 67 = .ok (.if_icmp .le 8, 3) := by decide +kernel
theorem dX7_bestShare_70 : decode cX7_bestShare 70 = .ok (.iload 5, 2) := by decide +kernel
theorem dX7_bestShare_72 : decode cX7_bestShare 72 = .ok (.goto 4, 3) := by decide +kernel
theorem dX7_bestShare_75 : decode cX7_bestShare 75 = .ok (.iload_n 3, 1) := by decide +kernel
theorem dX7_bestShare_76 : decode cX7_bestShare 76 = .ok (.istore_n 3, 1) := by decide +kernel
theorem dX7_bestShare_77 : decode cX7_bestShare 77 = .ok (.iinc 4 2, 3) := by decide +kernel
theorem dX7_bestShare_80 : decode cX7_bestShare 80 = .ok (.goto (-46), 3) := by decide +kernel
theorem dX7_bestShare_83 : decode cX7_bestShare 83 = .ok (.iload_n 2, 1) := by decide +kernel
theorem dX7_bestShare_84 : decode cX7_bestShare 84 = .ok (.ireturn, 1) := by decide +kernel
theorem lk_RX7_263 : LkV RX7 263 RX7 yX7_canTurn cX7_canTurn 2 (some .boolean) 1 := ⟨⟨mw_1418, mw_1420, mw_44, mw_59, mw_1421⟩, by decide +kernel⟩
set_option maxHeartbeats 4000000 in
set_option maxRecDepth 100000 in
theorem d_X7_ahead (l : Launch) (E : hE) (ρ r : Nat → Nat → Int32) (M : Nat → Int32) (L : Nat → Nat) (hJ : PJ r M L ρ) (a1 : Int32) (a2 : Int32) : Met l yX7_ahead (.code yX7_ahead cX7_ahead 3 (some .int) :: gw_all) (rmk 11 440) (cPre E ρ [.ref (E.2.1 + 1076), .int a1, .int a2]) (cI E (fun v ρ1 => PJ r M L ρ1)) 0 0 (hA E) := by
  refine ent (own := RX7) (by decide) rfl (Nat.le_of_ble_eq_true rfl) ?_
  intro p e s m below meth c ls B hr hlk hl hP hS
  have hx := B.1.1
  have hb := B.1.2.1
  have hown := B.1.2.2.2.1
  have hts := B.1.2.2.2.2
  have hl : lv_has ls 3 [(0, .ref (E.2.1 + 1076)), (1, .int a1), (2, .int a2)] := hl
  have hQ := hJ.1
  have hI := PJ_I hJ
  refine lv_aload_n hx hb dX7_ahead_0 rfl (lv_at hl 0 rfl) ?_
  refine lv_iconst (v := 0) hx hb dX7_ahead_1 (by decide) ?_
  refine put7 B hP hS (show hk 1076 = 7 by decide +kernel) 0 (by decide) mw_1027 rfl rfl rfl (fs7_0 E 1076 _ _) dX7_ahead_2 (fun H locs hP hS => ?_)
  obtain ⟨ρ30, e31⟩ : ∃ z, z = up ρ 1076 0 0 := ⟨_, rfl⟩
  rw [← e31] at hP
  have hI : RI ρ 99998 M L X0 ρ30 := by rw [e31]; exact RI_76 hI (by decide)
  refine lv_aload_n hx hb dX7_ahead_5 rfl (lv_at hl 0 rfl) ?_
  refine lv_iload_n hx hb dX7_ahead_6 rfl (lv_at hl 1 rfl) ?_
  refine call_i (cVt (k := 1076) (av := [.int a1]) (rest := []) B hP hS (d_X7_isNet l E ρ30 ρ 99998 (by decide) M L X0 a1 hI) lk_RX7_78 (hrecv (ci := 7) B hP (hk_lt (c := 7) (show hk 1076 = 7 by decide +kernel) (by decide)) (hcc7 _ _ (show hk 1076 = 7 by decide +kernel)) rfl) rfl rfl hl.1 (Nat.le_of_ble_eq_true rfl) ⟨Nat.le_of_ble_eq_true rfl, Nat.le_of_ble_eq_true rfl⟩ ⟨Nat.le_of_ble_eq_true rfl, Nat.le_of_ble_eq_true rfl⟩ dX7_ahead_7) hS (fun r32 ρ33 H locs q34 hP hS => ?_)
  obtain ⟨rfl, hI, q34⟩ := q34
  rcases q34 with rfl | ⟨rfl, j35, hj35, ej35, i36⟩
  · skip
    refine lv_if_eq (tgt := 21) hx hb dX7_ahead_10 (by decide) (fun _ => ?_) (fun c37 => absurd rfl c37)
    refine lv_iconst (v := (-1)) hx hb dX7_ahead_21 (by decide) ?_
    exact ret_i B hr hlk hP hS dX7_ahead_22 (PJ_RI hQ hI)
  · skip
    have n38 : nn a1 = j35 := nn_u ej35 (by omega)
    have i39 : iR (M (nn a1)) 0 5 := by rw [n38]; exact i36
    refine lv_if_eq (tgt := 21) hx hb dX7_ahead_10 (by decide) (fun c40 => absurd c40 (iR_ne (show iR 1 (1) (1) from ⟨by decide, by decide⟩) (show iR 0 (0) (0) from ⟨by decide, by decide⟩) (by decide))) (fun _ => ?_)
    refine lv_aload_n hx hb dX7_ahead_13 rfl (lv_at hl 0 rfl) ?_
    refine lv_iload_n hx hb dX7_ahead_14 rfl (lv_at hl 2 rfl) ?_
    refine call_i (cVt (k := 1076) (av := [.int a2]) (rest := []) B hP hS (d_X7_canTurn l E ρ30 ρ 99998 (by decide) M L X0 a2 hI) lk_RX7_263 (hrecv (ci := 7) B hP (hk_lt (c := 7) (show hk 1076 = 7 by decide +kernel) (by decide)) (hcc7 _ _ (show hk 1076 = 7 by decide +kernel)) rfl) rfl rfl hl.1 (Nat.le_of_ble_eq_true rfl) ⟨Nat.le_of_ble_eq_true rfl, Nat.le_of_ble_eq_true rfl⟩ ⟨Nat.le_of_ble_eq_true rfl, Nat.le_of_ble_eq_true rfl⟩ dX7_ahead_15) hS (fun r41 ρ42 H locs q43 hP hS => ?_)
    obtain ⟨rfl, hI, q43⟩ := q43
    rcases q43 with rfl | ⟨rfl, i44⟩
    · skip
      refine lv_if_ne (tgt := 23) hx hb dX7_ahead_18 (by decide) (fun c45 => absurd rfl c45) (fun _ => ?_)
      refine lv_iconst (v := (-1)) hx hb dX7_ahead_21 (by decide) ?_
      exact ret_i B hr hlk hP hS dX7_ahead_22 (PJ_RI hQ hI)
    · skip
      refine lv_if_ne (tgt := 23) hx hb dX7_ahead_18 (by decide) (fun _ => ?_) (fun c46 => absurd c46 (iR_ne (show iR 1 (1) (1) from ⟨by decide, by decide⟩) (show iR 0 (0) (0) from ⟨by decide, by decide⟩) (by decide)))
      refine lv_aload_n hx hb dX7_ahead_23 rfl (lv_at hl 0 rfl) ?_
      refine get7 B hP (show hk 1076 = 7 by decide +kernel) 3 (by decide) mw_1030 rfl dX7_ahead_24 ?_
      refine lv_iconst (v := 0) hx hb dX7_ahead_27 (by decide) ?_
      refine lv_aload_n hx hb dX7_ahead_28 rfl (lv_at hl 0 rfl) ?_
      refine get7 B hP (show hk 1076 = 7 by decide +kernel) 9 (by decide) mw_1036 rfl dX7_ahead_29 ?_
      refine lv_iconst (v := 0) hx hb dX7_ahead_32 (by decide) ?_
      refine call_v (cS (av := [.ref (E.2.1 + 1078), .int 0, .ref (E.2.1 + 1083), .int 0]) (rest := []) B hP hS (c_copy l E ρ30 1078 1083 695 695 0 0 (show hk 1078 = 8 by decide +kernel) (show hlen 1078 = 695 by decide +kernel) (show hk 1083 = 8 by decide +kernel) (show hlen 1083 = 695 by decide +kernel) (by omega) (by omega) (by decide) (by decide) (by decide)) lk_RX7_60 rfl rfl hl.1 (Nat.le_of_ble_eq_true rfl) ⟨Nat.le_of_ble_eq_true rfl, Nat.le_of_ble_eq_true rfl⟩ ⟨Nat.le_of_ble_eq_true rfl, Nat.le_of_ble_eq_true rfl⟩ dX7_ahead_33) hS (fun ρ48 H locs q49 hP hS => ?_)
      have hG50 := G_83 hI.2.2 q49.2.1
      have hJ2 := PJ_83 (PJ_RI hQ hI) q49.1
      have hQ := hJ2.1
      have hI := PJ_I hJ2
      refine lv_aload_n hx hb dX7_ahead_36 rfl (lv_at hl 0 rfl) ?_
      refine lv_iload_n hx hb dX7_ahead_37 rfl (lv_at hl 2 rfl) ?_
      have := nn_r (x := a2) (a := 1) (b := 200) i44 (by decide)
      refine lv_topi (fun z51 ez51 => ?_)
      obtain rfl : z51 = nI (nn a2) := ez51.trans (nn_eq a2)
      have hQa := PI_RI hQ hI
      have hGa : Good 99998 M L X0 (fun j => ρ48 1083 (0 + j)) := by rw [hI.1 1083 (by decide) (by decide)]; exact hG50
      have hT := PJ_TI hQa hI.2.2
      refine call_v (cVt (k := 1076) (av := [.int (nI (nn a2))]) (rest := []) B hP hS (d_X7_turnsBy l E ρ48 ρ48 99998 (by omega) M L (nn a2) (by omega) (by omega) hT (by omega)) lk_RX7_242 (hrecv (ci := 7) B hP (hk_lt (c := 7) (show hk 1076 = 7 by decide +kernel) (by decide)) (hcc7 _ _ (show hk 1076 = 7 by decide +kernel)) rfl) rfl rfl hl.1 (Nat.le_of_ble_eq_true rfl) ⟨Nat.le_of_ble_eq_true rfl, Nat.le_of_ble_eq_true rfl⟩ ⟨Nat.le_of_ble_eq_true rfl, Nat.le_of_ble_eq_true rfl⟩ dX7_ahead_38) hS (fun ρ53 H locs q54 hP hS => ?_)
      have hT := q54
      have hI := TI_RI hT
      refine lv_aload_n hx hb dX7_ahead_41 rfl (lv_at hl 0 rfl) ?_
      refine get7 B hP (show hk 1076 = 7 by decide +kernel) 9 (by decide) mw_1036 rfl dX7_ahead_42 ?_
      refine lv_iconst (v := 0) hx hb dX7_ahead_45 (by decide) ?_
      refine lv_aload_n hx hb dX7_ahead_46 rfl (lv_at hl 0 rfl) ?_
      refine get7 B hP (show hk 1076 = 7 by decide +kernel) 3 (by decide) mw_1030 rfl dX7_ahead_47 ?_
      refine lv_iconst (v := 0) hx hb dX7_ahead_50 (by decide) ?_
      refine call_v (cS (av := [.ref (E.2.1 + 1083), .int 0, .ref (E.2.1 + 1078), .int 0]) (rest := []) B hP hS (c_copy l E ρ53 1083 1078 695 695 0 0 (show hk 1083 = 8 by decide +kernel) (show hlen 1083 = 695 by decide +kernel) (show hk 1078 = 8 by decide +kernel) (show hlen 1078 = 695 by decide +kernel) (by omega) (by omega) (by decide) (by decide) (by decide)) lk_RX7_60 rfl rfl hl.1 (Nat.le_of_ble_eq_true rfl) ⟨Nat.le_of_ble_eq_true rfl, Nat.le_of_ble_eq_true rfl⟩ ⟨Nat.le_of_ble_eq_true rfl, Nat.le_of_ble_eq_true rfl⟩ dX7_ahead_51) hS (fun ρ56 H locs q57 hP hS => ?_)
      have hJ2 := PJ_restore hQa hGa hT q57.1 q57.2.1
      have hQ := hJ2.1
      have hI := PJ_I hJ2
      refine lv_aload_n hx hb dX7_ahead_54 rfl (lv_at hl 0 rfl) ?_
      refine get7 B hP (show hk 1076 = 7 by decide +kernel) 10 (by decide) mw_1037 rfl dX7_ahead_55 ?_
      refine lv_iload_n hx hb dX7_ahead_58 rfl (lv_at hl 1 rfl) ?_
      refine lv_topi (fun z58 ez58 => ?_)
      obtain rfl : z58 = nI (nn a1) := ez58.trans (nn_eq a1)
      refine aldn (n := 2) (j := (nn a1)) B hP (show hk 1084 = 8 by decide +kernel) (show hlen 1084 = 2 by decide +kernel) rfl (by omega) (by decide) dX7_ahead_59 ?_
      exact ret_i B hr hlk hP hS dX7_ahead_60 (PJ_RI hQ hI)

theorem lk_RX7_274 : LkV RX7 274 RX7 yX7_isEmpty cX7_isEmpty 4 (some .boolean) 2 := ⟨⟨mw_1447, mw_1449, mw_47, mw_59, mw_1450⟩, by decide +kernel⟩
set_option maxHeartbeats 4000000 in
set_option maxRecDepth 100000 in
theorem d_X7_drain (l : Launch) (E : hE) (ρ r : Nat → Nat → Int32) (M : Nat → Int32) (L : Nat → Nat) (hJ : PJ r M L ρ) (a1 : Int32) (a2 : Int32) : Met l yX7_drain (.code yX7_drain cX7_drain 5 (some .int) :: gw_all) (rmk 10 400) (cPre E ρ [.ref (E.2.1 + 1076), .int a1, .int a2]) (cI E (fun v ρ1 => PJ r M L ρ1)) 0 0 (hA E) := by
  refine ent (own := RX7) (by decide) rfl (Nat.le_of_ble_eq_true rfl) ?_
  intro p e s m below meth c ls B hr hlk hl hP hS
  have hx := B.1.1
  have hb := B.1.2.1
  have hown := B.1.2.2.2.1
  have hts := B.1.2.2.2.2
  have hl : lv_has ls 5 [(0, .ref (E.2.1 + 1076)), (1, .int a1), (2, .int a2)] := hl
  have hQ := hJ.1
  have hI := PJ_I hJ
  have b83_0 : ∀ (ls : Array Slot) (ρ : Nat → Nat → Int32) (H : Heap) (locs : List Loc) (x83_s0 : Int32), lv_has ls 5 [(0, .ref (E.2.1 + 1076))] → WP E ρ H → va_S (hA E) s.heap H locs → PD r M L 100798 ρ → iR x83_s0 (-1) (400) → iR (M (nn a1)) (0) (5) → iR a1 (0) (1) → iR a2 (0) (3) → 1 ≤ (L (nn a1)) → (L (nn a1)) ≤ 4 → 0 ≤ (nn a1) → (nn a1) ≤ 1 → 0 ≤ (nn a2) → (nn a2) ≤ 3 → (nn a2) + 1 ≤ L (nn a1) → W p l e (rmk 10 400) s m ([.ref (E.2.1 + 1076), .int a1, .int a2] : List Value).toArray below meth c H locs 0 0 (MQ below (cI E (fun v ρ1 => PJ r M L ρ1)) ([.ref (E.2.1 + 1076), .int a1, .int a2] : List Value).toArray s 0 0 (hA E)) (F0 m 83 ls [.int x83_s0]) := by
    intro ls ρ H locs x83_s0 hl hP hS hI hx83_s0 f_M__nn_a1__ fa1 fa2 tl_L__nn_a1__ tu_L__nn_a1__ tl_nn_a1_ tu_nn_a1_ tl_nn_a2_ tu_nn_a2_ hr83_0
    obtain ⟨ra, hQa, hGa, hT⟩ := hI
    have hI := TI_RI hT
    refine lv_istore (lv' := [(4, .int x83_s0), (0, .ref (E.2.1 + 1076))]) hx hb dX7_drain_83 hl (by decide) rfl (fun ls hl => ?_)
    refine lv_aload_n hx hb dX7_drain_85 rfl (lv_at hl 1 rfl) ?_
    refine get7 B hP (show hk 1076 = 7 by decide +kernel) 9 (by decide) mw_1036 rfl dX7_drain_86 ?_
    refine lv_iconst (v := 0) hx hb dX7_drain_89 (by decide) ?_
    refine lv_aload_n hx hb dX7_drain_90 rfl (lv_at hl 1 rfl) ?_
    refine get7 B hP (show hk 1076 = 7 by decide +kernel) 3 (by decide) mw_1030 rfl dX7_drain_91 ?_
    refine lv_iconst (v := 0) hx hb dX7_drain_94 (by decide) ?_
    refine call_v (cS (av := [.ref (E.2.1 + 1083), .int 0, .ref (E.2.1 + 1078), .int 0]) (rest := []) B hP hS (c_copy l E ρ 1083 1078 695 695 0 0 (show hk 1083 = 8 by decide +kernel) (show hlen 1083 = 695 by decide +kernel) (show hk 1078 = 8 by decide +kernel) (show hlen 1078 = 695 by decide +kernel) (by omega) (by omega) (by decide) (by decide) (by decide)) lk_RX7_60 rfl rfl hl.1 (Nat.le_of_ble_eq_true rfl) ⟨Nat.le_of_ble_eq_true rfl, Nat.le_of_ble_eq_true rfl⟩ ⟨Nat.le_of_ble_eq_true rfl, Nat.le_of_ble_eq_true rfl⟩ dX7_drain_95) hS (fun ρ684 H locs q685 hP hS => ?_)
    have hJ2 := PJ_restore hQa hGa hT q685.1 q685.2.1
    have hQ := hJ2.1
    have hI := PJ_I hJ2
    refine lv_iload hx hb dX7_drain_98 (lv_at hl 0 rfl) ?_
    exact ret_i B hr hlk hP hS dX7_drain_100 (PJ_RI hQ hI)
  have b83_1 : ∀ (ls : Array Slot) (ρ : Nat → Nat → Int32) (H : Heap) (locs : List Loc) , lv_has ls 5 [(0, .ref (E.2.1 + 1076))] → WP E ρ H → va_S (hA E) s.heap H locs → PD r M L 100798 ρ → iR (M (nn a1)) (0) (5) → iR a1 (0) (1) → iR a2 (0) (3) → 1 ≤ (L (nn a1)) → (L (nn a1)) ≤ 4 → 0 ≤ (nn a1) → (nn a1) ≤ 1 → 0 ≤ (nn a2) → (nn a2) ≤ 3 → (nn a2) + 1 ≤ L (nn a1) → W p l e (rmk 10 400) s m ([.ref (E.2.1 + 1076), .int a1, .int a2] : List Value).toArray below meth c H locs 0 0 (MQ below (cI E (fun v ρ1 => PJ r M L ρ1)) ([.ref (E.2.1 + 1076), .int a1, .int a2] : List Value).toArray s 0 0 (hA E)) (F0 m 83 ls [.int 0]) := by
    intro ls ρ H locs  hl hP hS hI f_M__nn_a1__ fa1 fa2 tl_L__nn_a1__ tu_L__nn_a1__ tl_nn_a1_ tu_nn_a1_ tl_nn_a2_ tu_nn_a2_ hr83_0
    obtain ⟨ra, hQa, hGa, hT⟩ := hI
    have hI := TI_RI hT
    refine lv_istore (lv' := [(4, .int 0), (0, .ref (E.2.1 + 1076))]) hx hb dX7_drain_83 hl (by decide) rfl (fun ls hl => ?_)
    refine lv_aload_n hx hb dX7_drain_85 rfl (lv_at hl 1 rfl) ?_
    refine get7 B hP (show hk 1076 = 7 by decide +kernel) 9 (by decide) mw_1036 rfl dX7_drain_86 ?_
    refine lv_iconst (v := 0) hx hb dX7_drain_89 (by decide) ?_
    refine lv_aload_n hx hb dX7_drain_90 rfl (lv_at hl 1 rfl) ?_
    refine get7 B hP (show hk 1076 = 7 by decide +kernel) 3 (by decide) mw_1030 rfl dX7_drain_91 ?_
    refine lv_iconst (v := 0) hx hb dX7_drain_94 (by decide) ?_
    refine call_v (cS (av := [.ref (E.2.1 + 1083), .int 0, .ref (E.2.1 + 1078), .int 0]) (rest := []) B hP hS (c_copy l E ρ 1083 1078 695 695 0 0 (show hk 1083 = 8 by decide +kernel) (show hlen 1083 = 695 by decide +kernel) (show hk 1078 = 8 by decide +kernel) (show hlen 1078 = 695 by decide +kernel) (by omega) (by omega) (by decide) (by decide) (by decide)) lk_RX7_60 rfl rfl hl.1 (Nat.le_of_ble_eq_true rfl) ⟨Nat.le_of_ble_eq_true rfl, Nat.le_of_ble_eq_true rfl⟩ ⟨Nat.le_of_ble_eq_true rfl, Nat.le_of_ble_eq_true rfl⟩ dX7_drain_95) hS (fun ρ687 H locs q688 hP hS => ?_)
    have hJ2 := PJ_restore hQa hGa hT q688.1 q688.2.1
    have hQ := hJ2.1
    have hI := PJ_I hJ2
    refine lv_iload hx hb dX7_drain_98 (lv_at hl 0 rfl) ?_
    exact ret_i B hr hlk hP hS dX7_drain_100 (PJ_RI hQ hI)
  have b69_0 : ∀ (ls : Array Slot) (ρ : Nat → Nat → Int32) (H : Heap) (locs : List Loc) (j69_3 : Nat), lv_has ls 5 [(0, .ref (E.2.1 + 1076)), (1, .int a1), (2, .int a2), (3, .int (nI j69_3))] → WP E ρ H → va_S (hA E) s.heap H locs → PD r M L 100798 ρ → 0 ≤ j69_3 → j69_3 ≤ 400 → iR (M (nn a1)) (0) (5) → iR a1 (0) (1) → iR a2 (0) (3) → 1 ≤ (L (nn a1)) → (L (nn a1)) ≤ 4 → 0 ≤ (nn a1) → (nn a1) ≤ 1 → 0 ≤ (nn a2) → (nn a2) ≤ 3 → (nn a2) + 1 ≤ L (nn a1) → iR a2 (-1) ((L (nn a1) : Int) - 1) → W p l e (rmk 10 400) s m ([.ref (E.2.1 + 1076), .int a1, .int a2] : List Value).toArray below meth c H locs 0 0 (MQ below (cI E (fun v ρ1 => PJ r M L ρ1)) ([.ref (E.2.1 + 1076), .int a1, .int a2] : List Value).toArray s 0 0 (hA E)) (F0 m 69 ls []) := by
    intro ls ρ H locs j69_3 hl hP hS hI lj69_3 uj69_3 f_M__nn_a1__ fa1 fa2 tl_L__nn_a1__ tu_L__nn_a1__ tl_nn_a1_ tu_nn_a1_ tl_nn_a2_ tu_nn_a2_ hr69_0 hr69_1
    obtain ⟨ra, hQa, hGa, hT⟩ := hI
    have hI := TI_RI hT
    refine lv_aload_n hx hb dX7_drain_69 rfl (lv_at hl 0 rfl) ?_
    refine lv_iload_n hx hb dX7_drain_70 rfl (lv_at hl 1 rfl) ?_
    have := nn_r (x := a1) (a := 0) (b := 1) fa1 (by decide)
    refine lv_topi (fun z689 ez689 => ?_)
    obtain rfl : z689 = nI (nn a1) := ez689.trans (nn_eq a1)
    refine lv_iload_n hx hb dX7_drain_71 rfl (lv_at hl 2 rfl) ?_
    have := nn_r (x := a2) (a := 0) (b := 3) fa2 (by decide)
    refine lv_topi (fun z690 ez690 => ?_)
    obtain rfl : z690 = nI (nn a2) := ez690.trans (nn_eq a2)
    refine call_i (cVt (k := 1076) (av := [.int (nI (nn a1)), .int (nI (nn a2))]) (rest := []) B hP hS (d_X7_isEmpty l E ρ ρ 100798 (by omega) M L (XT 0 0 0 0 (ρ 1084) (ρ 1087)) (nn a1) (by omega) (by omega) (nn a2) (by omega) (by omega) hI) lk_RX7_274 (hrecv (ci := 7) B hP (hk_lt (c := 7) (show hk 1076 = 7 by decide +kernel) (by decide)) (hcc7 _ _ (show hk 1076 = 7 by decide +kernel)) rfl) rfl rfl hl.1 (Nat.le_of_ble_eq_true rfl) ⟨Nat.le_of_ble_eq_true rfl, Nat.le_of_ble_eq_true rfl⟩ ⟨Nat.le_of_ble_eq_true rfl, Nat.le_of_ble_eq_true rfl⟩ dX7_drain_72) hS (fun r691 ρ692 H locs q693 hP hS => ?_)
    obtain ⟨rfl, hI, q693⟩ := q693
    obtain ⟨j694, lj694, uj694, ej694⟩ := iR_nat (a := 0) (b := 1) q693
    refine lv_topi (fun z695 ez695 => ?_)
    obtain rfl : z695 = nI j694 := ez695.trans ej694
    refine lv_if_eq (tgt := 82) hx hb dX7_drain_75 (by decide) (fun c696 => ?_) (fun c696 => ?_)
    · skip
      have n697 := (nI_eq (a := j694) (b := 0) (by omega) (by omega)).mp (show (nI j694 = nI 0) from c696)
      refine lv_iconst (v := (-1)) hx hb dX7_drain_82 (by decide) ?_
      exact b83_0 ls ρ _ _ ((-1) : Int32) (lv_sub hl [0] rfl) hP hS ⟨_, hQa, hGa, TI_B (by omega) hT⟩ (iR_w (show iR (-1) (-1) (-1) from ⟨by decide, by decide⟩) (by decide) (by decide)) (iR_w f_M__nn_a1__ (by decide) (by decide)) (iR_w fa1 (by decide) (by decide)) (iR_w fa2 (by decide) (by decide)) (by omega) (by omega) (by omega) (by omega) (by omega) (by omega) (by omega)
    · skip
      have n698 := mt (nI_eq (a := j694) (b := 0) (by omega) (by omega)).mpr (show ¬ (nI j694 = nI 0) from c696)
      refine lv_iload_n hx hb dX7_drain_78 rfl (lv_at hl 3 rfl) ?_
      refine lv_goto (tgt := 83) hx hb dX7_drain_79 (by decide) ?_
      exact b83_0 ls ρ _ _ ((nI j69_3) : Int32) (lv_sub hl [0] rfl) hP hS ⟨_, hQa, hGa, TI_B (by omega) hT⟩ (iR_w (nI_iR (j := j69_3) (a := 0) (b := 400) (by omega) (by omega) (by omega)) (by decide) (by decide)) (iR_w f_M__nn_a1__ (by decide) (by decide)) (iR_w fa1 (by decide) (by decide)) (iR_w fa2 (by decide) (by decide)) (by omega) (by omega) (by omega) (by omega) (by omega) (by omega) (by omega)
  have b31_0 : ∀ (ls : Array Slot) (ρ : Nat → Nat → Int32) (H : Heap) (locs : List Loc) (d31 : Nat) (j31_3 : Nat), lv_has ls 5 [(0, .ref (E.2.1 + 1076)), (1, .int a1), (2, .int a2), (3, .int (nI j31_3))] → WP E ρ H → va_S (hA E) s.heap H locs → PD r M L (99998 + 2 * j31_3) ρ → 401 - j31_3 < d31 → 0 ≤ j31_3 → j31_3 ≤ 400 → iR (M (nn a1)) (0) (5) → iR a1 (0) (1) → iR a2 (0) (3) → 1 ≤ (L (nn a1)) → (L (nn a1)) ≤ 4 → 0 ≤ (nn a1) → (nn a1) ≤ 1 → 0 ≤ (nn a2) → (nn a2) ≤ 3 → (nn a2) + 1 ≤ L (nn a1) → iR a2 (-1) ((L (nn a1) : Int) - 1) → W p l e (rmk 10 400) s m ([.ref (E.2.1 + 1076), .int a1, .int a2] : List Value).toArray below meth c H locs 0 0 (MQ below (cI E (fun v ρ1 => PJ r M L ρ1)) ([.ref (E.2.1 + 1076), .int a1, .int a2] : List Value).toArray s 0 0 (hA E)) (F0 m 31 ls []) := by
    intro ls ρ H locs d31
    induction d31 generalizing ls ρ H locs with
    | zero => intro j31_3 hl hP hS hI hd31 lj31_3 uj31_3 f_M__nn_a1__ fa1 fa2 tl_L__nn_a1__ tu_L__nn_a1__ tl_nn_a1_ tu_nn_a1_ tl_nn_a2_ tu_nn_a2_ hr31_0 hr31_1; exact absurd hd31 (Nat.not_lt_zero _)
    | succ d31 ih31 =>
      intro j31_3 hl hP hS hI hd31 lj31_3 uj31_3 f_M__nn_a1__ fa1 fa2 tl_L__nn_a1__ tu_L__nn_a1__ tl_nn_a1_ tu_nn_a1_ tl_nn_a2_ tu_nn_a2_ hr31_0 hr31_1
      obtain ⟨ra, hQa, hGa, hT⟩ := hI
      have hI := TI_RI hT
      refine lv_iload_n hx hb dX7_drain_31 rfl (lv_at hl 3 rfl) ?_
      refine lv_sipush (v := 400) hx hb dX7_drain_32 (by decide) ?_
      refine lv_icmp_ge (tgt := 69) hx hb dX7_drain_35 (by decide) (fun c699 => ?_) (fun c699 => ?_)
      · skip
        have n700 := mt (nx_lt (a := j31_3) (b := 400) (by omega) (by omega)).mpr (show ¬ (nI j31_3 < nI 400) from (Int32.not_lt.mpr c699))
        exact b69_0 ls ρ _ _ j31_3 (lv_sub hl [0, 1, 2, 3] rfl) hP hS ⟨_, hQa, hGa, TI_B (by omega) hT⟩ (by omega) (by omega) (iR_w f_M__nn_a1__ (by decide) (by decide)) (iR_w fa1 (by decide) (by decide)) (iR_w fa2 (by decide) (by decide)) (by omega) (by omega) (by omega) (by omega) (by omega) (by omega) (by omega) hr31_1
      · skip
        have n701 := (nx_lt (a := j31_3) (b := 400) (by omega) (by omega)).mp (show (nI j31_3 < nI 400) from (Int32.not_le.mp c699))
        refine lv_aload_n hx hb dX7_drain_38 rfl (lv_at hl 0 rfl) ?_
        refine get7 B hP (show hk 1076 = 7 by decide +kernel) 3 (by decide) mw_1030 rfl dX7_drain_39 ?_
        refine lv_bipush (v := 7) hx hb dX7_drain_42 (by decide) ?_
        refine aldn (n := 695) (j := 7) B hP (show hk 1078 = 8 by decide +kernel) (show hlen 1078 = 695 by decide +kernel) rfl (by omega) (by decide) dX7_drain_44 ?_
        have i702 : iR (ρ 1078 7) (0) (1000000) := (iR_w (g_time hI) (by omega) (by omega))
        obtain ⟨j703, lj703, uj703, ej703⟩ := iR_nat (a := 0) (b := 1000000) i702
        refine lv_topi (fun z704 ez704 => ?_)
        obtain rfl : z704 = nI j703 := ez704.trans ej703
        refine lv_ldc (v := 99998) hx hb hown (hts _ mw_1256) dX7_drain_45 ?_
        refine lv_icmp_ge (tgt := 69) hx hb dX7_drain_47 (by decide) (fun c705 => ?_) (fun c705 => ?_)
        · skip
          have n706 := mt (nx_lt (a := j703) (b := 99998) (by omega) (by omega)).mpr (show ¬ (nI j703 < nI 99998) from (Int32.not_lt.mpr c705))
          exact b69_0 ls ρ _ _ j31_3 (lv_sub hl [0, 1, 2, 3] rfl) hP hS ⟨_, hQa, hGa, TI_B (by omega) hT⟩ (by omega) (by omega) (iR_w f_M__nn_a1__ (by decide) (by decide)) (iR_w fa1 (by decide) (by decide)) (iR_w fa2 (by decide) (by decide)) (by omega) (by omega) (by omega) (by omega) (by omega) (by omega) (by omega) hr31_1
        · skip
          have n707 := (nx_lt (a := j703) (b := 99998) (by omega) (by omega)).mp (show (nI j703 < nI 99998) from (Int32.not_le.mp c705))
          refine lv_aload_n hx hb dX7_drain_50 rfl (lv_at hl 0 rfl) ?_
          refine lv_iload_n hx hb dX7_drain_51 rfl (lv_at hl 1 rfl) ?_
          have := nn_r (x := a1) (a := 0) (b := 1) fa1 (by decide)
          refine lv_topi (fun z708 ez708 => ?_)
          obtain rfl : z708 = nI (nn a1) := ez708.trans (nn_eq a1)
          refine lv_iload_n hx hb dX7_drain_52 rfl (lv_at hl 2 rfl) ?_
          have := nn_r (x := a2) (a := 0) (b := 3) fa2 (by decide)
          refine lv_topi (fun z709 ez709 => ?_)
          obtain rfl : z709 = nI (nn a2) := ez709.trans (nn_eq a2)
          refine call_i (cVt (k := 1076) (av := [.int (nI (nn a1)), .int (nI (nn a2))]) (rest := []) B hP hS (d_X7_isEmpty l E ρ ρ (99998 + 2 * j31_3) (by omega) M L (XT 0 0 0 0 (ρ 1084) (ρ 1087)) (nn a1) (by omega) (by omega) (nn a2) (by omega) (by omega) hI) lk_RX7_274 (hrecv (ci := 7) B hP (hk_lt (c := 7) (show hk 1076 = 7 by decide +kernel) (by decide)) (hcc7 _ _ (show hk 1076 = 7 by decide +kernel)) rfl) rfl rfl hl.1 (Nat.le_of_ble_eq_true rfl) ⟨Nat.le_of_ble_eq_true rfl, Nat.le_of_ble_eq_true rfl⟩ ⟨Nat.le_of_ble_eq_true rfl, Nat.le_of_ble_eq_true rfl⟩ dX7_drain_53) hS (fun r710 ρ711 H locs q712 hP hS => ?_)
          obtain ⟨rfl, hI, q712⟩ := q712
          obtain ⟨j713, lj713, uj713, ej713⟩ := iR_nat (a := 0) (b := 1) q712
          refine lv_topi (fun z714 ez714 => ?_)
          obtain rfl : z714 = nI j713 := ez714.trans ej713
          refine lv_if_ne (tgt := 69) hx hb dX7_drain_56 (by decide) (fun c715 => ?_) (fun c715 => ?_)
          · skip
            have n716 := mt (nI_eq (a := j713) (b := 0) (by omega) (by omega)).mpr (show ¬ (nI j713 = nI 0) from c715)
            exact b69_0 ls ρ _ _ j31_3 (lv_sub hl [0, 1, 2, 3] rfl) hP hS ⟨_, hQa, hGa, TI_B (by omega) hT⟩ (by omega) (by omega) (iR_w f_M__nn_a1__ (by decide) (by decide)) (iR_w fa1 (by decide) (by decide)) (iR_w fa2 (by decide) (by decide)) (by omega) (by omega) (by omega) (by omega) (by omega) (by omega) (by omega) hr31_1
          · skip
            have n717 := (nI_eq (a := j713) (b := 0) (by omega) (by omega)).mp (show (nI j713 = nI 0) from c715)
            refine lv_aload_n hx hb dX7_drain_59 rfl (lv_at hl 0 rfl) ?_
            refine call_v (cVt (k := 1076) (av := []) (rest := []) B hP hS (d_X7_turn l E ρ ra (99998 + 2 * j31_3) (by omega) M L hT) lk_RX7_236 (hrecv (ci := 7) B hP (hk_lt (c := 7) (show hk 1076 = 7 by decide +kernel) (by decide)) (hcc7 _ _ (show hk 1076 = 7 by decide +kernel)) rfl) rfl rfl hl.1 (Nat.le_of_ble_eq_true rfl) ⟨Nat.le_of_ble_eq_true rfl, Nat.le_of_ble_eq_true rfl⟩ ⟨Nat.le_of_ble_eq_true rfl, Nat.le_of_ble_eq_true rfl⟩ dX7_drain_60) hS (fun ρ719 H locs q720 hP hS => ?_)
            have hT := q720
            have hI := TI_RI hT
            refine lv_iinc (v := (nI (1 + j31_3))) (lv' := [(3, .int (nI (1 + j31_3))), (0, .ref (E.2.1 + 1076)), (1, .int a1), (2, .int a2)]) hx hb dX7_drain_63 hl (k := 3) rfl (show nI j31_3 + nI 1 = _ from (nI_add _ _).trans (congrArg nI (by omega))) (by decide) rfl (fun ls hl => ?_)
            refine lv_goto (tgt := 31) hx hb dX7_drain_66 (by decide) ?_
            exact ih31 ls ρ719 _ _ (1 + j31_3) (lv_sub hl [1, 2, 3, 0] rfl) hP hS ⟨_, hQa, hGa, TI_B (by omega) hT⟩ (by omega) (by omega) (by omega) (iR_w f_M__nn_a1__ (by decide) (by decide)) (iR_w fa1 (by decide) (by decide)) (iR_w fa2 (by decide) (by decide)) (by omega) (by omega) (by omega) (by omega) (by omega) (by omega) (by omega) hr31_1
  refine lv_aload_n hx hb dX7_drain_0 rfl (lv_at hl 0 rfl) ?_
  refine lv_iconst (v := 0) hx hb dX7_drain_1 (by decide) ?_
  refine put7 B hP hS (show hk 1076 = 7 by decide +kernel) 0 (by decide) mw_1027 rfl rfl rfl (fs7_0 E 1076 _ _) dX7_drain_2 (fun H locs hP hS => ?_)
  obtain ⟨ρ721, e722⟩ : ∃ z, z = up ρ 1076 0 0 := ⟨_, rfl⟩
  rw [← e722] at hP
  have hI : RI ρ 99998 M L X0 ρ721 := by rw [e722]; exact RI_76 hI (by decide)
  refine lv_aload_n hx hb dX7_drain_5 rfl (lv_at hl 0 rfl) ?_
  refine lv_iload_n hx hb dX7_drain_6 rfl (lv_at hl 1 rfl) ?_
  refine lv_iload_n hx hb dX7_drain_7 rfl (lv_at hl 2 rfl) ?_
  refine call_i (cVt (k := 1076) (av := [.int a1, .int a2]) (rest := []) B hP hS (d_X7_isLink l E ρ721 ρ 99998 (by decide) M L X0 a1 a2 hI) lk_RX7_106 (hrecv (ci := 7) B hP (hk_lt (c := 7) (show hk 1076 = 7 by decide +kernel) (by decide)) (hcc7 _ _ (show hk 1076 = 7 by decide +kernel)) rfl) rfl rfl hl.1 (Nat.le_of_ble_eq_true rfl) ⟨Nat.le_of_ble_eq_true rfl, Nat.le_of_ble_eq_true rfl⟩ ⟨Nat.le_of_ble_eq_true rfl, Nat.le_of_ble_eq_true rfl⟩ dX7_drain_8) hS (fun r723 ρ724 H locs q725 hP hS => ?_)
  obtain ⟨rfl, hI, q725⟩ := q725
  rcases q725 with rfl | ⟨rfl, j726, hj726, ej726, i727, j728, hj728, ej728⟩
  · skip
    refine lv_if_ne (tgt := 16) hx hb dX7_drain_11 (by decide) (fun c729 => absurd rfl c729) (fun _ => ?_)
    refine lv_iconst (v := (-1)) hx hb dX7_drain_14 (by decide) ?_
    exact ret_i B hr hlk hP hS dX7_drain_15 (PJ_RI hQ hI)
  · skip
    have := RI_Lb hI hj726
    have n730 : nn a1 = j726 := nn_u ej726 (by omega)
    have i731 : iR (M (nn a1)) 0 5 := by rw [n730]; exact i727
    have : j728 < L (nn a1) := by rw [n730]; exact hj728
    have := RI_Lb (n := (nn a1)) hI (by omega)
    have n732 : nn a2 = j728 := nn_u ej728 (by omega)
    refine lv_if_ne (tgt := 16) hx hb dX7_drain_11 (by decide) (fun _ => ?_) (fun c733 => absurd c733 (iR_ne (show iR 1 (1) (1) from ⟨by decide, by decide⟩) (show iR 0 (0) (0) from ⟨by decide, by decide⟩) (by decide)))
    refine lv_aload_n hx hb dX7_drain_16 rfl (lv_at hl 0 rfl) ?_
    refine get7 B hP (show hk 1076 = 7 by decide +kernel) 3 (by decide) mw_1030 rfl dX7_drain_17 ?_
    refine lv_iconst (v := 0) hx hb dX7_drain_20 (by decide) ?_
    refine lv_aload_n hx hb dX7_drain_21 rfl (lv_at hl 0 rfl) ?_
    refine get7 B hP (show hk 1076 = 7 by decide +kernel) 9 (by decide) mw_1036 rfl dX7_drain_22 ?_
    refine lv_iconst (v := 0) hx hb dX7_drain_25 (by decide) ?_
    refine call_v (cS (av := [.ref (E.2.1 + 1078), .int 0, .ref (E.2.1 + 1083), .int 0]) (rest := []) B hP hS (c_copy l E ρ721 1078 1083 695 695 0 0 (show hk 1078 = 8 by decide +kernel) (show hlen 1078 = 695 by decide +kernel) (show hk 1083 = 8 by decide +kernel) (show hlen 1083 = 695 by decide +kernel) (by omega) (by omega) (by decide) (by decide) (by decide)) lk_RX7_60 rfl rfl hl.1 (Nat.le_of_ble_eq_true rfl) ⟨Nat.le_of_ble_eq_true rfl, Nat.le_of_ble_eq_true rfl⟩ ⟨Nat.le_of_ble_eq_true rfl, Nat.le_of_ble_eq_true rfl⟩ dX7_drain_26) hS (fun ρ735 H locs q736 hP hS => ?_)
    have hG737 := G_83 hI.2.2 q736.2.1
    have hJ2 := PJ_83 (PJ_RI hQ hI) q736.1
    have hQ := hJ2.1
    have hI := PJ_I hJ2
    refine lv_iconst (v := 0) hx hb dX7_drain_29 (by decide) ?_
    refine lv_istore_n (lv' := [(3, .int 0), (0, .ref (E.2.1 + 1076)), (1, .int a1), (2, .int a2)]) hx hb dX7_drain_30 rfl hl (by decide) rfl (fun ls hl => ?_)
    exact b31_0 ls ρ735 _ _ _ 0 (lv_sub hl [1, 2, 3, 0] rfl) hP hS ⟨_, PI_RI hQ hI, by rw [hI.1 1083 (by decide) (by decide)]; exact hG737, TI_B (by omega) (PJ_TI (PI_RI hQ hI) hI.2.2)⟩ (Nat.lt_succ_self _) (by omega) (by omega) (iR_w i731 (by decide) (by decide)) (iR_w (show iR a1 0 1 from by rw [ej726]; exact nI_iR (by omega) (by omega) (by omega)) (by decide) (by decide)) (iR_w (show iR a2 0 3 from by rw [ej728]; exact nI_iR (by omega) (by omega) (by omega)) (by decide) (by decide)) (by omega) (by omega) (by omega) (by omega) (by omega) (by omega) (by omega) (show iR a2 (-1) ((L (nn a1) : Int) - 1) from by rw [ej728]; exact rl_nat (k := j728) (by omega) (by omega))

theorem lk_RX7_277 : LkV RX7 277 RX7 yX7_otherMaps cX7_otherMaps 4 (some .int) 0 := ⟨⟨mw_1459, mw_1461, mw_49, mw_59, mw_1462⟩, by decide +kernel⟩
set_option maxHeartbeats 4000000 in
set_option maxRecDepth 100000 in
theorem d_X7_tries (l : Launch) (E : hE) (ρ r : Nat → Nat → Int32) (M : Nat → Int32) (L : Nat → Nat) (hJ : PJ r M L ρ) (a1 : Int32) (na2 : Nat) (lna2 : 1 ≤ na2) (una2 : na2 ≤ 200) (a3 : Int32) : Met l yX7_tries (.code yX7_tries cX7_tries 5 (some .int) :: gw_all) (rmk 11 440) (cPre E ρ [.ref (E.2.1 + 1076), .int a1, .int (nI na2), .int a3]) (cI E (fun v ρ1 => PJ r M L ρ1)) 0 0 (hA E) := by
  refine ent (own := RX7) (by decide) rfl (Nat.le_of_ble_eq_true rfl) ?_
  intro p e s m below meth c ls B hr hlk hl hP hS
  have hx := B.1.1
  have hb := B.1.2.1
  have hown := B.1.2.2.2.1
  have hts := B.1.2.2.2.2
  have hl : lv_has ls 5 [(0, .ref (E.2.1 + 1076)), (1, .int a1), (2, .int (nI na2)), (3, .int a3)] := hl
  have hQ := hJ.1
  have hI := PJ_I hJ
  refine lv_aload_n hx hb dX7_tries_0 rfl (lv_at hl 0 rfl) ?_
  refine get7 B hP (show hk 1076 = 7 by decide +kernel) 3 (by decide) mw_1030 rfl dX7_tries_1 ?_
  refine lv_iconst (v := 0) hx hb dX7_tries_4 (by decide) ?_
  refine lv_aload_n hx hb dX7_tries_5 rfl (lv_at hl 0 rfl) ?_
  refine get7 B hP (show hk 1076 = 7 by decide +kernel) 9 (by decide) mw_1036 rfl dX7_tries_6 ?_
  refine lv_iconst (v := 0) hx hb dX7_tries_9 (by decide) ?_
  refine call_v (cS (av := [.ref (E.2.1 + 1078), .int 0, .ref (E.2.1 + 1083), .int 0]) (rest := []) B hP hS (c_copy l E ρ 1078 1083 695 695 0 0 (show hk 1078 = 8 by decide +kernel) (show hlen 1078 = 695 by decide +kernel) (show hk 1083 = 8 by decide +kernel) (show hlen 1083 = 695 by decide +kernel) (by omega) (by omega) (by decide) (by decide) (by decide)) lk_RX7_60 rfl rfl hl.1 (Nat.le_of_ble_eq_true rfl) ⟨Nat.le_of_ble_eq_true rfl, Nat.le_of_ble_eq_true rfl⟩ ⟨Nat.le_of_ble_eq_true rfl, Nat.le_of_ble_eq_true rfl⟩ dX7_tries_10) hS (fun ρ27 H locs q28 hP hS => ?_)
  have hG29 := G_83 hI.2.2 q28.2.1
  have hJ2 := PJ_83 (PJ_RI hQ hI) q28.1
  have hQ := hJ2.1
  have hI := PJ_I hJ2
  refine lv_aload_n hx hb dX7_tries_13 rfl (lv_at hl 0 rfl) ?_
  refine get7 B hP (show hk 1076 = 7 by decide +kernel) 3 (by decide) mw_1030 rfl dX7_tries_14 ?_
  refine lv_bipush (v := 9) hx hb dX7_tries_17 (by decide) ?_
  refine lv_iload_n hx hb dX7_tries_19 rfl (lv_at hl 1 rfl) ?_
  refine astn (n := 695) (j := 9) B hP hS (show hk 1078 = 8 by decide +kernel) (show hlen 1078 = 695 by decide +kernel) rfl (by omega) (by decide) dX7_tries_20 (fun H locs hP hS => ?_)
  obtain ⟨ρ30, e31⟩ : ∃ z, z = up ρ27 1078 9 a1 := ⟨_, rfl⟩
  rw [← e31] at hP
  have hI : RI ρ27 99998 M L X0 ρ30 := by rw [e31]; exact RI_up hI (ok_head (by omega) (by omega) (by omega))
  refine lv_aload_n hx hb dX7_tries_21 rfl (lv_at hl 0 rfl) ?_
  refine lv_iload_n hx hb dX7_tries_22 rfl (lv_at hl 2 rfl) ?_
  have hQa := PI_RI hQ hI
  have hGa : Good 99998 M L X0 (fun j => ρ30 1083 (0 + j)) := by rw [hI.1 1083 (by decide) (by decide)]; exact hG29
  have hT := PJ_TI hQa hI.2.2
  refine call_v (cVt (k := 1076) (av := [.int (nI na2)]) (rest := []) B hP hS (d_X7_turnsBy l E ρ30 ρ30 99998 (by omega) M L na2 (by omega) (by omega) hT (by omega)) lk_RX7_242 (hrecv (ci := 7) B hP (hk_lt (c := 7) (show hk 1076 = 7 by decide +kernel) (by decide)) (hcc7 _ _ (show hk 1076 = 7 by decide +kernel)) rfl) rfl rfl hl.1 (Nat.le_of_ble_eq_true rfl) ⟨Nat.le_of_ble_eq_true rfl, Nat.le_of_ble_eq_true rfl⟩ ⟨Nat.le_of_ble_eq_true rfl, Nat.le_of_ble_eq_true rfl⟩ dX7_tries_23) hS (fun ρ33 H locs q34 hP hS => ?_)
  have hT := q34
  have hI := TI_RI hT
  refine lv_iload_n hx hb dX7_tries_26 rfl (lv_at hl 3 rfl) ?_
  refine lv_if_ne (tgt := 37) hx hb dX7_tries_27 (by decide) (fun c35 => ?_) (fun c35 => ?_)
  · skip
    refine lv_iload_n hx hb dX7_tries_37 rfl (lv_at hl 3 rfl) ?_
    refine lv_iconst (v := 1) hx hb dX7_tries_38 (by decide) ?_
    refine lv_icmp_ne (tgt := 49) hx hb dX7_tries_39 (by decide) (fun c36 => ?_) (fun c36 => ?_)
    · skip
      refine lv_aload_n hx hb dX7_tries_49 rfl (lv_at hl 0 rfl) ?_
      refine call_i (cVt (k := 1076) (av := []) (rest := []) B hP hS (d_X7_otherMaps l E ρ33 ρ33 (99998 + 2 * na2) (by omega) M L (XT 0 0 0 0 (ρ33 1084) (ρ33 1087)) hI) lk_RX7_277 (hrecv (ci := 7) B hP (hk_lt (c := 7) (show hk 1076 = 7 by decide +kernel) (by decide)) (hcc7 _ _ (show hk 1076 = 7 by decide +kernel)) rfl) rfl rfl hl.1 (Nat.le_of_ble_eq_true rfl) ⟨Nat.le_of_ble_eq_true rfl, Nat.le_of_ble_eq_true rfl⟩ ⟨Nat.le_of_ble_eq_true rfl, Nat.le_of_ble_eq_true rfl⟩ dX7_tries_50) hS (fun r37 ρ38 H locs q39 hP hS => ?_)
      obtain ⟨rfl, hI⟩ := q39
      refine lv_istore (lv' := [(4, .int r37), (0, .ref (E.2.1 + 1076)), (1, .int a1), (2, .int (nI na2)), (3, .int a3)]) hx hb dX7_tries_53 hl (by decide) rfl (fun ls hl => ?_)
      refine lv_aload_n hx hb dX7_tries_55 rfl (lv_at hl 1 rfl) ?_
      refine get7 B hP (show hk 1076 = 7 by decide +kernel) 9 (by decide) mw_1036 rfl dX7_tries_56 ?_
      refine lv_iconst (v := 0) hx hb dX7_tries_59 (by decide) ?_
      refine lv_aload_n hx hb dX7_tries_60 rfl (lv_at hl 1 rfl) ?_
      refine get7 B hP (show hk 1076 = 7 by decide +kernel) 3 (by decide) mw_1030 rfl dX7_tries_61 ?_
      refine lv_iconst (v := 0) hx hb dX7_tries_64 (by decide) ?_
      refine call_v (cS (av := [.ref (E.2.1 + 1083), .int 0, .ref (E.2.1 + 1078), .int 0]) (rest := []) B hP hS (c_copy l E ρ33 1083 1078 695 695 0 0 (show hk 1083 = 8 by decide +kernel) (show hlen 1083 = 695 by decide +kernel) (show hk 1078 = 8 by decide +kernel) (show hlen 1078 = 695 by decide +kernel) (by omega) (by omega) (by decide) (by decide) (by decide)) lk_RX7_60 rfl rfl hl.1 (Nat.le_of_ble_eq_true rfl) ⟨Nat.le_of_ble_eq_true rfl, Nat.le_of_ble_eq_true rfl⟩ ⟨Nat.le_of_ble_eq_true rfl, Nat.le_of_ble_eq_true rfl⟩ dX7_tries_65) hS (fun ρ41 H locs q42 hP hS => ?_)
      have hJ2 := PJ_restore hQa hGa hT q42.1 q42.2.1
      have hQ := hJ2.1
      have hI := PJ_I hJ2
      refine lv_iload hx hb dX7_tries_68 (lv_at hl 0 rfl) ?_
      exact ret_i B hr hlk hP hS dX7_tries_70 (PJ_RI hQ hI)
    · skip
      have i43 : iR a3 (1) (1) := (by rw [c36]; exact ⟨by decide, by decide⟩)
      refine lv_aload_n hx hb dX7_tries_42 rfl (lv_at hl 0 rfl) ?_
      refine get7 B hP (show hk 1076 = 7 by decide +kernel) 17 (by decide) mw_1044 rfl dX7_tries_43 ?_
      refine lv_goto (tgt := 53) hx hb dX7_tries_46 (by decide) ?_
      refine lv_istore (lv' := [(4, .int (ρ33 1076 17)), (0, .ref (E.2.1 + 1076)), (1, .int a1), (2, .int (nI na2)), (3, .int a3)]) hx hb dX7_tries_53 hl (by decide) rfl (fun ls hl => ?_)
      refine lv_aload_n hx hb dX7_tries_55 rfl (lv_at hl 1 rfl) ?_
      refine get7 B hP (show hk 1076 = 7 by decide +kernel) 9 (by decide) mw_1036 rfl dX7_tries_56 ?_
      refine lv_iconst (v := 0) hx hb dX7_tries_59 (by decide) ?_
      refine lv_aload_n hx hb dX7_tries_60 rfl (lv_at hl 1 rfl) ?_
      refine get7 B hP (show hk 1076 = 7 by decide +kernel) 3 (by decide) mw_1030 rfl dX7_tries_61 ?_
      refine lv_iconst (v := 0) hx hb dX7_tries_64 (by decide) ?_
      refine call_v (cS (av := [.ref (E.2.1 + 1083), .int 0, .ref (E.2.1 + 1078), .int 0]) (rest := []) B hP hS (c_copy l E ρ33 1083 1078 695 695 0 0 (show hk 1083 = 8 by decide +kernel) (show hlen 1083 = 695 by decide +kernel) (show hk 1078 = 8 by decide +kernel) (show hlen 1078 = 695 by decide +kernel) (by omega) (by omega) (by decide) (by decide) (by decide)) lk_RX7_60 rfl rfl hl.1 (Nat.le_of_ble_eq_true rfl) ⟨Nat.le_of_ble_eq_true rfl, Nat.le_of_ble_eq_true rfl⟩ ⟨Nat.le_of_ble_eq_true rfl, Nat.le_of_ble_eq_true rfl⟩ dX7_tries_65) hS (fun ρ45 H locs q46 hP hS => ?_)
      have hJ2 := PJ_restore hQa hGa hT q46.1 q46.2.1
      have hQ := hJ2.1
      have hI := PJ_I hJ2
      refine lv_iload hx hb dX7_tries_68 (lv_at hl 0 rfl) ?_
      exact ret_i B hr hlk hP hS dX7_tries_70 (PJ_RI hQ hI)
  · skip
    have i47 : iR a3 (0) (0) := (by rw [c35]; exact ⟨by decide, by decide⟩)
    refine lv_aload_n hx hb dX7_tries_30 rfl (lv_at hl 0 rfl) ?_
    refine get7 B hP (show hk 1076 = 7 by decide +kernel) 16 (by decide) mw_1043 rfl dX7_tries_31 ?_
    refine lv_goto (tgt := 53) hx hb dX7_tries_34 (by decide) ?_
    refine lv_istore (lv' := [(4, .int (ρ33 1076 16)), (0, .ref (E.2.1 + 1076)), (1, .int a1), (2, .int (nI na2)), (3, .int a3)]) hx hb dX7_tries_53 hl (by decide) rfl (fun ls hl => ?_)
    refine lv_aload_n hx hb dX7_tries_55 rfl (lv_at hl 1 rfl) ?_
    refine get7 B hP (show hk 1076 = 7 by decide +kernel) 9 (by decide) mw_1036 rfl dX7_tries_56 ?_
    refine lv_iconst (v := 0) hx hb dX7_tries_59 (by decide) ?_
    refine lv_aload_n hx hb dX7_tries_60 rfl (lv_at hl 1 rfl) ?_
    refine get7 B hP (show hk 1076 = 7 by decide +kernel) 3 (by decide) mw_1030 rfl dX7_tries_61 ?_
    refine lv_iconst (v := 0) hx hb dX7_tries_64 (by decide) ?_
    refine call_v (cS (av := [.ref (E.2.1 + 1083), .int 0, .ref (E.2.1 + 1078), .int 0]) (rest := []) B hP hS (c_copy l E ρ33 1083 1078 695 695 0 0 (show hk 1083 = 8 by decide +kernel) (show hlen 1083 = 695 by decide +kernel) (show hk 1078 = 8 by decide +kernel) (show hlen 1078 = 695 by decide +kernel) (by omega) (by omega) (by decide) (by decide) (by decide)) lk_RX7_60 rfl rfl hl.1 (Nat.le_of_ble_eq_true rfl) ⟨Nat.le_of_ble_eq_true rfl, Nat.le_of_ble_eq_true rfl⟩ ⟨Nat.le_of_ble_eq_true rfl, Nat.le_of_ble_eq_true rfl⟩ dX7_tries_65) hS (fun ρ49 H locs q50 hP hS => ?_)
    have hJ2 := PJ_restore hQa hGa hT q50.1 q50.2.1
    have hQ := hJ2.1
    have hI := PJ_I hJ2
    refine lv_iload hx hb dX7_tries_68 (lv_at hl 0 rfl) ?_
    exact ret_i B hr hlk hP hS dX7_tries_70 (PJ_RI hQ hI)

theorem lk_RX7_280 : LkV RX7 280 RX7 yX7_tries cX7_tries 5 (some .int) 3 := ⟨⟨mw_1455, mw_1457, mw_48, mw_59, mw_1458⟩, by decide +kernel⟩
set_option maxHeartbeats 4000000 in
set_option maxRecDepth 100000 in
theorem d_X7_would (l : Launch) (E : hE) (ρ r : Nat → Nat → Int32) (M : Nat → Int32) (L : Nat → Nat) (hJ : PJ r M L ρ) (a1 : Int32) (a2 : Int32) (a3 : Int32) : Met l yX7_would (.code yX7_would cX7_would 4 (some .int) :: gw_all) (rmk 12 480) (cPre E ρ [.ref (E.2.1 + 1076), .int a1, .int a2, .int a3]) (cI E (fun v ρ1 => PJ r M L ρ1)) 0 0 (hA E) := by
  refine ent (own := RX7) (by decide) rfl (Nat.le_of_ble_eq_true rfl) ?_
  intro p e s m below meth c ls B hr hlk hl hP hS
  have hx := B.1.1
  have hb := B.1.2.1
  have hown := B.1.2.2.2.1
  have hts := B.1.2.2.2.2
  have hl : lv_has ls 4 [(0, .ref (E.2.1 + 1076)), (1, .int a1), (2, .int a2), (3, .int a3)] := hl
  have hQ := hJ.1
  have hI := PJ_I hJ
  refine lv_aload_n hx hb dX7_would_0 rfl (lv_at hl 0 rfl) ?_
  refine lv_iconst (v := 0) hx hb dX7_would_1 (by decide) ?_
  refine put7 B hP hS (show hk 1076 = 7 by decide +kernel) 0 (by decide) mw_1027 rfl rfl rfl (fs7_0 E 1076 _ _) dX7_would_2 (fun H locs hP hS => ?_)
  obtain ⟨ρ28, e29⟩ : ∃ z, z = up ρ 1076 0 0 := ⟨_, rfl⟩
  rw [← e29] at hP
  have hI : RI ρ 99998 M L X0 ρ28 := by rw [e29]; exact RI_76 hI (by decide)
  refine lv_iload_n hx hb dX7_would_5 rfl (lv_at hl 1 rfl) ?_
  refine call_i (cS (av := [.int a1]) (rest := []) B hP hS (d_X7_isShare l E ρ28 ρ 99998 (by decide) M L X0 a1 hI) lk_RX7_138 rfl rfl hl.1 (Nat.le_of_ble_eq_true rfl) ⟨Nat.le_of_ble_eq_true rfl, Nat.le_of_ble_eq_true rfl⟩ ⟨Nat.le_of_ble_eq_true rfl, Nat.le_of_ble_eq_true rfl⟩ dX7_would_6) hS (fun r30 ρ31 H locs q32 hP hS => ?_)
  obtain ⟨rfl, hI, q32⟩ := q32
  obtain ⟨j33, lj33, uj33, ej33⟩ := iR_nat (a := 0) (b := 1) q32
  refine lv_topi (fun z34 ez34 => ?_)
  obtain rfl : z34 = nI j33 := ez34.trans ej33
  refine lv_if_eq (tgt := 42) hx hb dX7_would_9 (by decide) (fun c35 => ?_) (fun c35 => ?_)
  · skip
    have n36 := (nI_eq (a := j33) (b := 0) (by omega) (by omega)).mp (show (nI j33 = nI 0) from c35)
    refine lv_iconst (v := (-1)) hx hb dX7_would_42 (by decide) ?_
    exact ret_i B hr hlk hP hS dX7_would_43 (PJ_RI hQ hI)
  · skip
    have n37 := mt (nI_eq (a := j33) (b := 0) (by omega) (by omega)).mpr (show ¬ (nI j33 = nI 0) from c35)
    refine lv_aload_n hx hb dX7_would_12 rfl (lv_at hl 0 rfl) ?_
    refine lv_iload_n hx hb dX7_would_13 rfl (lv_at hl 2 rfl) ?_
    refine call_i (cVt (k := 1076) (av := [.int a2]) (rest := []) B hP hS (d_X7_canTurn l E ρ28 ρ 99998 (by decide) M L X0 a2 hI) lk_RX7_263 (hrecv (ci := 7) B hP (hk_lt (c := 7) (show hk 1076 = 7 by decide +kernel) (by decide)) (hcc7 _ _ (show hk 1076 = 7 by decide +kernel)) rfl) rfl rfl hl.1 (Nat.le_of_ble_eq_true rfl) ⟨Nat.le_of_ble_eq_true rfl, Nat.le_of_ble_eq_true rfl⟩ ⟨Nat.le_of_ble_eq_true rfl, Nat.le_of_ble_eq_true rfl⟩ dX7_would_14) hS (fun r38 ρ39 H locs q40 hP hS => ?_)
    obtain ⟨rfl, hI, q40⟩ := q40
    rcases q40 with rfl | ⟨rfl, i41⟩
    · skip
      refine lv_if_eq (tgt := 42) hx hb dX7_would_17 (by decide) (fun _ => ?_) (fun c42 => absurd rfl c42)
      refine lv_iconst (v := (-1)) hx hb dX7_would_42 (by decide) ?_
      exact ret_i B hr hlk hP hS dX7_would_43 (PJ_RI hQ hI)
    · skip
      refine lv_if_eq (tgt := 42) hx hb dX7_would_17 (by decide) (fun c43 => absurd c43 (iR_ne (show iR 1 (1) (1) from ⟨by decide, by decide⟩) (show iR 0 (0) (0) from ⟨by decide, by decide⟩) (by decide))) (fun _ => ?_)
      refine lv_iload_n hx hb dX7_would_20 rfl (lv_at hl 3 rfl) ?_
      refine lv_i2l hx hb dX7_would_21 rfl ?_
      refine lv_lconst (v := 0) hx hb dX7_would_22 (by decide) ?_
      refine lv_ldc2 (v := 2) hx hb hown (hts _ mw_1192) dX7_would_23 ?_
      refine call_i (cS (av := [.long a3.toInt64, .long 0, .long 2]) (rest := []) B hP hS (c_in l E ρ28 a3.toInt64 0 2 0 2 (by decide) (by decide)) lk_RX7_71 rfl rfl hl.1 (Nat.le_of_ble_eq_true rfl) ⟨Nat.le_of_ble_eq_true rfl, Nat.le_of_ble_eq_true rfl⟩ ⟨Nat.le_of_ble_eq_true rfl, Nat.le_of_ble_eq_true rfl⟩ dX7_would_26) hS (fun r44 ρ45 H locs q46 hP hS => ?_)
      obtain ⟨rfl, q46⟩ := q46
      rcases q46 with ⟨rfl, q46⟩ | ⟨rfl, q46⟩
      · skip
        have i47 : iR a3 0 2 := (lR_i _ _ _).mp q46
        refine lv_if_eq (tgt := 42) hx hb dX7_would_29 (by decide) (fun c48 => absurd c48 (iR_ne (show iR 1 (1) (1) from ⟨by decide, by decide⟩) (show iR 0 (0) (0) from ⟨by decide, by decide⟩) (by decide))) (fun _ => ?_)
        refine lv_aload_n hx hb dX7_would_32 rfl (lv_at hl 0 rfl) ?_
        refine lv_iload_n hx hb dX7_would_33 rfl (lv_at hl 1 rfl) ?_
        refine lv_iload_n hx hb dX7_would_34 rfl (lv_at hl 2 rfl) ?_
        have := nn_r (x := a2) (a := 1) (b := 200) i41 (by decide)
        refine lv_topi (fun z49 ez49 => ?_)
        obtain rfl : z49 = nI (nn a2) := ez49.trans (nn_eq a2)
        refine lv_iload_n hx hb dX7_would_35 rfl (lv_at hl 3 rfl) ?_
        have := nn_r (x := a3) (a := 0) (b := 2) i47 (by decide)
        refine lv_topi (fun z50 ez50 => ?_)
        obtain rfl : z50 = nI (nn a3) := ez50.trans (nn_eq a3)
        refine call_i (cVt (k := 1076) (av := [.int a1, .int (nI (nn a2)), .int (nI (nn a3))]) (rest := []) B hP hS (d_X7_tries l E ρ28 r M L (PJ_RI hQ hI) a1 (nn a2) (by omega) (by omega) (nI (nn a3))) lk_RX7_280 (hrecv (ci := 7) B hP (hk_lt (c := 7) (show hk 1076 = 7 by decide +kernel) (by decide)) (hcc7 _ _ (show hk 1076 = 7 by decide +kernel)) rfl) rfl rfl hl.1 (Nat.le_of_ble_eq_true rfl) ⟨Nat.le_of_ble_eq_true rfl, Nat.le_of_ble_eq_true rfl⟩ ⟨Nat.le_of_ble_eq_true rfl, Nat.le_of_ble_eq_true rfl⟩ dX7_would_36) hS (fun r51 ρ52 H locs q53 hP hS => ?_)
        have hJ2 := q53
        have hQ := hJ2.1
        have hI := PJ_I hJ2
        refine lv_goto (tgt := 43) hx hb dX7_would_39 (by decide) ?_
        exact ret_i B hr hlk hP hS dX7_would_43 (PJ_RI hQ hI)
      · skip
        refine lv_if_eq (tgt := 42) hx hb dX7_would_29 (by decide) (fun _ => ?_) (fun c54 => absurd rfl c54)
        refine lv_iconst (v := (-1)) hx hb dX7_would_42 (by decide) ?_
        exact ret_i B hr hlk hP hS dX7_would_43 (PJ_RI hQ hI)

set_option maxHeartbeats 4000000 in
set_option maxRecDepth 100000 in
theorem d_X7_bestShare (l : Launch) (E : hE) (ρ r : Nat → Nat → Int32) (M : Nat → Int32) (L : Nat → Nat) (hJ : PJ r M L ρ) (a1 : Int32) : Met l yX7_bestShare (.code yX7_bestShare cX7_bestShare 6 (some .int) :: gw_all) (rmk 12 480) (cPre E ρ [.ref (E.2.1 + 1076), .int a1]) (cI E (fun v ρ1 => PJ r M L ρ1)) 0 0 (hA E) := by
  refine ent (own := RX7) (by decide) rfl (Nat.le_of_ble_eq_true rfl) ?_
  intro p e s m below meth c ls B hr hlk hl hP hS
  have hx := B.1.1
  have hb := B.1.2.1
  have hown := B.1.2.2.2.1
  have hts := B.1.2.2.2.2
  have hl : lv_has ls 6 [(0, .ref (E.2.1 + 1076)), (1, .int a1)] := hl
  have hQ := hJ.1
  have hI := PJ_I hJ
  have b34_0 : ∀ (ls : Array Slot) (ρ : Nat → Nat → Int32) (H : Heap) (locs : List Loc) (d34 : Nat) (x34_2 : Int32) (x34_3 : Int32) (j34_4 : Nat), lv_has ls 6 [(0, .ref (E.2.1 + 1076)), (1, .int a1), (2, .int x34_2), (3, .int x34_3), (4, .int (nI j34_4))] → WP E ρ H → va_S (hA E) s.heap H locs → PJ r M L ρ → 65 - j34_4 < d34 → iR x34_2 (-1) (32) → iR x34_3 (-2147483648) (2147483647) → 0 ≤ j34_4 → j34_4 ≤ 64 → iR a1 (1) (32) → 1 ≤ (nn a1) → (nn a1) ≤ 32 → W p l e (rmk 12 480) s m ([.ref (E.2.1 + 1076), .int a1] : List Value).toArray below meth c H locs 0 0 (MQ below (cI E (fun v ρ1 => PJ r M L ρ1)) ([.ref (E.2.1 + 1076), .int a1] : List Value).toArray s 0 0 (hA E)) (F0 m 34 ls []) := by
    intro ls ρ H locs d34
    induction d34 generalizing ls ρ H locs with
    | zero => intro x34_2 x34_3 j34_4 hl hP hS hI hd34 hx34_2 hx34_3 lj34_4 uj34_4 fa1 tl_nn_a1_ tu_nn_a1_; exact absurd hd34 (Nat.not_lt_zero _)
    | succ d34 ih34 =>
      intro x34_2 x34_3 j34_4 hl hP hS hI hd34 hx34_2 hx34_3 lj34_4 uj34_4 fa1 tl_nn_a1_ tu_nn_a1_
      have b76_0 : ∀ (ls : Array Slot) (ρ : Nat → Nat → Int32) (H : Heap) (locs : List Loc) (x76_2 : Int32) (x76_s0 : Int32), lv_has ls 6 [(0, .ref (E.2.1 + 1076)), (1, .int a1), (2, .int x76_2), (4, .int (nI j34_4))] → WP E ρ H → va_S (hA E) s.heap H locs → PJ r M L ρ → iR x76_2 (-1) (32) → iR x76_s0 (-2147483648) (2147483647) → iR a1 (1) (32) → 1 ≤ (nn a1) → (nn a1) ≤ 32 → 0 ≤ j34_4 → j34_4 ≤ 32 → W p l e (rmk 12 480) s m ([.ref (E.2.1 + 1076), .int a1] : List Value).toArray below meth c H locs 0 0 (MQ below (cI E (fun v ρ1 => PJ r M L ρ1)) ([.ref (E.2.1 + 1076), .int a1] : List Value).toArray s 0 0 (hA E)) (F0 m 76 ls [.int x76_s0]) := by
        intro ls ρ H locs x76_2 x76_s0 hl hP hS hI hx76_2 hx76_s0 fa1 tl_nn_a1_ tu_nn_a1_ tlj34_4 tuj34_4
        have hQ := hI.1
        have hI := PJ_I hI
        refine lv_istore_n (lv' := [(3, .int x76_s0), (0, .ref (E.2.1 + 1076)), (1, .int a1), (2, .int x76_2), (4, .int (nI j34_4))]) hx hb dX7_bestShare_76 rfl hl (by decide) rfl (fun ls hl => ?_)
        refine lv_iinc (v := (nI (2 + j34_4))) (lv' := [(4, .int (nI (2 + j34_4))), (3, .int x76_s0), (0, .ref (E.2.1 + 1076)), (1, .int a1), (2, .int x76_2)]) hx hb dX7_bestShare_77 hl (k := 4) rfl (show nI j34_4 + nI 2 = _ from (nI_add _ _).trans (congrArg nI (by omega))) (by decide) rfl (fun ls hl => ?_)
        refine lv_goto (tgt := 34) hx hb dX7_bestShare_80 (by decide) ?_
        exact ih34 ls ρ _ _ (x76_2 : Int32) (x76_s0 : Int32) (2 + j34_4) (lv_sub hl [2, 3, 4, 1, 0] rfl) hP hS (PJ_RI hQ hI) (by omega) (iR_w hx76_2 (by decide) (by decide)) (iR_w hx76_s0 (by decide) (by decide)) (by omega) (by omega) (iR_w fa1 (by decide) (by decide)) (by omega) (by omega)
      have b63_0 : ∀ (ls : Array Slot) (ρ : Nat → Nat → Int32) (H : Heap) (locs : List Loc) (x63_5 : Int32) (x63_s0 : Int32), lv_has ls 6 [(0, .ref (E.2.1 + 1076)), (1, .int a1), (3, .int x34_3), (4, .int (nI j34_4)), (5, .int x63_5)] → WP E ρ H → va_S (hA E) s.heap H locs → PJ r M L ρ → iR x63_5 (-2147483648) (2147483647) → iR x63_s0 (-1) (32) → iR a1 (1) (32) → 1 ≤ (nn a1) → (nn a1) ≤ 32 → 0 ≤ j34_4 → j34_4 ≤ 32 → W p l e (rmk 12 480) s m ([.ref (E.2.1 + 1076), .int a1] : List Value).toArray below meth c H locs 0 0 (MQ below (cI E (fun v ρ1 => PJ r M L ρ1)) ([.ref (E.2.1 + 1076), .int a1] : List Value).toArray s 0 0 (hA E)) (F0 m 63 ls [.int x63_s0]) := by
        intro ls ρ H locs x63_5 x63_s0 hl hP hS hI hx63_5 hx63_s0 fa1 tl_nn_a1_ tu_nn_a1_ tlj34_4 tuj34_4
        have hQ := hI.1
        have hI := PJ_I hI
        refine lv_istore_n (lv' := [(2, .int x63_s0), (0, .ref (E.2.1 + 1076)), (1, .int a1), (3, .int x34_3), (4, .int (nI j34_4)), (5, .int x63_5)]) hx hb dX7_bestShare_63 rfl hl (by decide) rfl (fun ls hl => ?_)
        refine lv_iload hx hb dX7_bestShare_64 (lv_at hl 5 rfl) ?_
        refine lv_iload_n hx hb dX7_bestShare_66 rfl (lv_at hl 3 rfl) ?_
        refine lv_icmp_le (tgt := 75) hx hb dX7_bestShare_67 (by decide) (fun c91 => ?_) (fun c91 => ?_)
        · skip
          refine lv_iload_n hx hb dX7_bestShare_75 rfl (lv_at hl 3 rfl) ?_
          exact b76_0 ls ρ _ _ (x63_s0 : Int32) (x34_3 : Int32) (lv_sub hl [1, 2, 0, 4] rfl) hP hS (PJ_RI hQ hI) (iR_w hx63_s0 (by decide) (by decide)) (iR_w hx34_3 (by decide) (by decide)) (iR_w fa1 (by decide) (by decide)) (by omega) (by omega) (by omega) (by omega)
        · skip
          refine lv_iload hx hb dX7_bestShare_70 (lv_at hl 5 rfl) ?_
          refine lv_goto (tgt := 76) hx hb dX7_bestShare_72 (by decide) ?_
          exact b76_0 ls ρ _ _ (x63_s0 : Int32) (x63_5 : Int32) (lv_sub hl [1, 2, 0, 4] rfl) hP hS (PJ_RI hQ hI) (iR_w hx63_s0 (by decide) (by decide)) (iR_w hx63_5 (by decide) (by decide)) (iR_w fa1 (by decide) (by decide)) (by omega) (by omega) (by omega) (by omega)
      have hQ := hI.1
      have hI := PJ_I hI
      refine lv_iload hx hb dX7_bestShare_34 (lv_at hl 4 rfl) ?_
      refine lv_bipush (v := 32) hx hb dX7_bestShare_36 (by decide) ?_
      refine lv_icmp_gt (tgt := 83) hx hb dX7_bestShare_38 (by decide) (fun c92 => ?_) (fun c92 => ?_)
      · skip
        have n93 := (nx_lt (a := 32) (b := j34_4) (by omega) (by omega)).mp (show (nI 32 < nI j34_4) from c92)
        refine lv_iload_n hx hb dX7_bestShare_83 rfl (lv_at hl 2 rfl) ?_
        exact ret_i B hr hlk hP hS dX7_bestShare_84 (PJ_RI hQ hI)
      · skip
        have n94 := mt (nx_lt (a := 32) (b := j34_4) (by omega) (by omega)).mpr (show ¬ (nI 32 < nI j34_4) from c92)
        refine lv_aload_n hx hb dX7_bestShare_41 rfl (lv_at hl 0 rfl) ?_
        refine lv_iload hx hb dX7_bestShare_42 (lv_at hl 4 rfl) ?_
        refine lv_iload_n hx hb dX7_bestShare_44 rfl (lv_at hl 1 rfl) ?_
        have := nn_r (x := a1) (a := 1) (b := 32) fa1 (by decide)
        refine lv_topi (fun z95 ez95 => ?_)
        obtain rfl : z95 = nI (nn a1) := ez95.trans (nn_eq a1)
        refine lv_iconst (v := 0) hx hb dX7_bestShare_45 (by decide) ?_
        refine call_i (cVt (k := 1076) (av := [.int (nI j34_4), .int (nI (nn a1)), .int 0]) (rest := []) B hP hS (d_X7_tries l E ρ r M L (PJ_RI hQ hI) (nI j34_4) (nn a1) (by omega) (by omega) 0) lk_RX7_280 (hrecv (ci := 7) B hP (hk_lt (c := 7) (show hk 1076 = 7 by decide +kernel) (by decide)) (hcc7 _ _ (show hk 1076 = 7 by decide +kernel)) rfl) rfl rfl hl.1 (Nat.le_of_ble_eq_true rfl) ⟨Nat.le_of_ble_eq_true rfl, Nat.le_of_ble_eq_true rfl⟩ ⟨Nat.le_of_ble_eq_true rfl, Nat.le_of_ble_eq_true rfl⟩ dX7_bestShare_46) hS (fun r96 ρ97 H locs q98 hP hS => ?_)
        have hJ2 := q98
        have hQ := hJ2.1
        have hI := PJ_I hJ2
        refine lv_istore (lv' := [(5, .int r96), (0, .ref (E.2.1 + 1076)), (1, .int a1), (2, .int x34_2), (3, .int x34_3), (4, .int (nI j34_4))]) hx hb dX7_bestShare_49 hl (by decide) rfl (fun ls hl => ?_)
        refine lv_iload hx hb dX7_bestShare_51 (lv_at hl 0 rfl) ?_
        refine lv_iload_n hx hb dX7_bestShare_53 rfl (lv_at hl 4 rfl) ?_
        refine lv_icmp_le (tgt := 62) hx hb dX7_bestShare_54 (by decide) (fun c99 => ?_) (fun c99 => ?_)
        · skip
          refine lv_iload_n hx hb dX7_bestShare_62 rfl (lv_at hl 3 rfl) ?_
          exact b63_0 ls ρ97 _ _ (r96 : Int32) (x34_2 : Int32) (lv_sub hl [1, 2, 4, 5, 0] rfl) hP hS (PJ_RI hQ hI) (iR_w (iR_any r96) (by decide) (by decide)) (iR_w hx34_2 (by decide) (by decide)) (iR_w fa1 (by decide) (by decide)) (by omega) (by omega) (by omega) (by omega)
        · skip
          refine lv_iload hx hb dX7_bestShare_57 (lv_at hl 5 rfl) ?_
          refine lv_goto (tgt := 63) hx hb dX7_bestShare_59 (by decide) ?_
          exact b63_0 ls ρ97 _ _ (r96 : Int32) ((nI j34_4) : Int32) (lv_sub hl [1, 2, 4, 5, 0] rfl) hP hS (PJ_RI hQ hI) (iR_w (iR_any r96) (by decide) (by decide)) (iR_w (nI_iR (j := j34_4) (a := 0) (b := 32) (by omega) (by omega) (by omega)) (by decide) (by decide)) (iR_w fa1 (by decide) (by decide)) (by omega) (by omega) (by omega) (by omega)
  refine lv_aload_n hx hb dX7_bestShare_0 rfl (lv_at hl 0 rfl) ?_
  refine lv_iconst (v := 0) hx hb dX7_bestShare_1 (by decide) ?_
  refine put7 B hP hS (show hk 1076 = 7 by decide +kernel) 0 (by decide) mw_1027 rfl rfl rfl (fs7_0 E 1076 _ _) dX7_bestShare_2 (fun H locs hP hS => ?_)
  obtain ⟨ρ100, e101⟩ : ∃ z, z = up ρ 1076 0 0 := ⟨_, rfl⟩
  rw [← e101] at hP
  have hI : RI ρ 99998 M L X0 ρ100 := by rw [e101]; exact RI_76 hI (by decide)
  refine lv_iload_n hx hb dX7_bestShare_5 rfl (lv_at hl 1 rfl) ?_
  refine lv_i2l hx hb dX7_bestShare_6 rfl ?_
  refine lv_lconst (v := 1) hx hb dX7_bestShare_7 (by decide) ?_
  refine lv_ldc2 (v := 32) hx hb hown (hts _ mw_1197) dX7_bestShare_8 ?_
  refine call_i (cS (av := [.long a1.toInt64, .long 1, .long 32]) (rest := []) B hP hS (c_in l E ρ100 a1.toInt64 1 32 1 32 (by decide) (by decide)) lk_RX7_71 rfl rfl hl.1 (Nat.le_of_ble_eq_true rfl) ⟨Nat.le_of_ble_eq_true rfl, Nat.le_of_ble_eq_true rfl⟩ ⟨Nat.le_of_ble_eq_true rfl, Nat.le_of_ble_eq_true rfl⟩ dX7_bestShare_11) hS (fun r102 ρ103 H locs q104 hP hS => ?_)
  obtain ⟨rfl, q104⟩ := q104
  rcases q104 with ⟨rfl, q104⟩ | ⟨rfl, q104⟩
  · skip
    have i105 : iR a1 1 32 := (lR_i _ _ _).mp q104
    refine lv_if_eq (tgt := 25) hx hb dX7_bestShare_14 (by decide) (fun c106 => absurd c106 (iR_ne (show iR 1 (1) (1) from ⟨by decide, by decide⟩) (show iR 0 (0) (0) from ⟨by decide, by decide⟩) (by decide))) (fun _ => ?_)
    refine lv_aload_n hx hb dX7_bestShare_17 rfl (lv_at hl 0 rfl) ?_
    refine lv_iload_n hx hb dX7_bestShare_18 rfl (lv_at hl 1 rfl) ?_
    have := nn_r (x := a1) (a := 1) (b := 32) i105 (by decide)
    refine lv_topi (fun z107 ez107 => ?_)
    obtain rfl : z107 = nI (nn a1) := ez107.trans (nn_eq a1)
    refine call_i (cVt (k := 1076) (av := [.int (nI (nn a1))]) (rest := []) B hP hS (d_X7_canTurn l E ρ100 ρ 99998 (by decide) M L X0 (nI (nn a1)) hI) lk_RX7_263 (hrecv (ci := 7) B hP (hk_lt (c := 7) (show hk 1076 = 7 by decide +kernel) (by decide)) (hcc7 _ _ (show hk 1076 = 7 by decide +kernel)) rfl) rfl rfl hl.1 (Nat.le_of_ble_eq_true rfl) ⟨Nat.le_of_ble_eq_true rfl, Nat.le_of_ble_eq_true rfl⟩ ⟨Nat.le_of_ble_eq_true rfl, Nat.le_of_ble_eq_true rfl⟩ dX7_bestShare_19) hS (fun r108 ρ109 H locs q110 hP hS => ?_)
    obtain ⟨rfl, hI, q110⟩ := q110
    rcases q110 with rfl | ⟨rfl, i111⟩
    · skip
      refine lv_if_ne (tgt := 27) hx hb dX7_bestShare_22 (by decide) (fun c112 => absurd rfl c112) (fun _ => ?_)
      refine lv_iconst (v := (-1)) hx hb dX7_bestShare_25 (by decide) ?_
      exact ret_i B hr hlk hP hS dX7_bestShare_26 (PJ_RI hQ hI)
    · skip
      refine lv_if_ne (tgt := 27) hx hb dX7_bestShare_22 (by decide) (fun _ => ?_) (fun c113 => absurd c113 (iR_ne (show iR 1 (1) (1) from ⟨by decide, by decide⟩) (show iR 0 (0) (0) from ⟨by decide, by decide⟩) (by decide)))
      refine lv_iconst (v := (-1)) hx hb dX7_bestShare_27 (by decide) ?_
      refine lv_istore_n (lv' := [(2, .int (-1)), (0, .ref (E.2.1 + 1076)), (1, .int a1)]) hx hb dX7_bestShare_28 rfl hl (by decide) rfl (fun ls hl => ?_)
      refine lv_iconst (v := (-1)) hx hb dX7_bestShare_29 (by decide) ?_
      refine lv_istore_n (lv' := [(3, .int (-1)), (2, .int (-1)), (0, .ref (E.2.1 + 1076)), (1, .int a1)]) hx hb dX7_bestShare_30 rfl hl (by decide) rfl (fun ls hl => ?_)
      refine lv_iconst (v := 0) hx hb dX7_bestShare_31 (by decide) ?_
      refine lv_istore (lv' := [(4, .int 0), (3, .int (-1)), (2, .int (-1)), (0, .ref (E.2.1 + 1076)), (1, .int a1)]) hx hb dX7_bestShare_32 hl (by decide) rfl (fun ls hl => ?_)
      exact b34_0 ls ρ100 _ _ _ ((-1) : Int32) ((-1) : Int32) 0 (lv_sub hl [3, 4, 2, 1, 0] rfl) hP hS (PJ_RI hQ hI) (Nat.lt_succ_self _) (iR_w (show iR (-1) (-1) (-1) from ⟨by decide, by decide⟩) (by decide) (by decide)) (iR_w (show iR (-1) (-1) (-1) from ⟨by decide, by decide⟩) (by decide) (by decide)) (by omega) (by omega) (iR_w i105 (by decide) (by decide)) (by omega) (by omega)
  · skip
    refine lv_if_eq (tgt := 25) hx hb dX7_bestShare_14 (by decide) (fun _ => ?_) (fun c114 => absurd rfl c114)
    refine lv_iconst (v := (-1)) hx hb dX7_bestShare_25 (by decide) ?_
    exact ret_i B hr hlk hP hS dX7_bestShare_26 (PJ_RI hQ hI)
