set_option maxHeartbeats 4000000 in
set_option maxRecDepth 100000 in
theorem lc_share {G : KG} {X : KX} {l : Launch} {b L : Nat} {sq : Nat → Int32} {ce sl : Nat} (F : kF false G X l code RL 4 (some .boolean) room_1) (S : LSq X b L sq) (hL : L ≤ 3072) (hcr : ce ≤ 600000 ∧ sl ≤ 7302250) {M N : Mem} (hI : Inv false M) (hX : XX M) (hJ : Inv true N) (hY : YY N) (hm : Tie M N) {i : Int} (hi : 0 ≤ i ∧ i + 6 ≤ L) (K : ∀ M' N' : Mem, Inv false M' → XX M' → Inv true N' → YY N' → Tie M' N' → LJ G X ce sl M' N' 2050 [some (.ref b), some (vR G 0), some (vR G 163), some (vI i)] []) : LJ G X ce sl M N 1770 [some (.ref b), some (vR G 0), some (vR G 163), some (vI i)] [] := by
  obtain ⟨q, hV, hS, hU, hR, hT⟩ := hm.2.2.2.2.2.2.2.2.1.1
  refine kw_aload_n 1771 F 1 dL_law_1770 rfl rfl rfl ?_
  refine kw_aload_n 1772 F 0 dL_law_1771 rfl rfl rfl ?_
  refine kw_iload_n 1773 F 3 dL_law_1772 rfl rfl rfl ?_
  refine kw_iconst 1774 F dL_law_1773 rfl ?_
  refine kw_iadd 1775 F (v := i + 1) dL_law_1774 rfl rfl ?_
  refine kw_sld 1776 F S hL (z := i + 1) (by omega) dL_law_1775 rfl ?_
  have hs1 := sv_rng sq (i + 1)
  refine kw_aload_n 1777 F 0 dL_law_1776 rfl rfl rfl ?_
  refine kw_iload_n 1778 F 3 dL_law_1777 rfl rfl rfl ?_
  refine kw_iconst 1779 F dL_law_1778 rfl ?_
  refine kw_iadd 1780 F (v := i + 2) dL_law_1779 rfl rfl ?_
  refine kw_sld 1781 F S hL (z := i + 2) (by omega) dL_law_1780 rfl ?_
  have hs2 := sv_rng sq (i + 2)
  refine kw_VCi 1784 F (As := [vI (sv sq (i + 1)), vI (sv sq (i + 2))]) (st := []) vd_L_187 (e_share3 G l M 0 (sv sq (i + 1)) (sv sq (i + 2)) hI kd_0 (by omega) q hS hU) kd_0 rfl rfl rfl ⟨by decide, by decide⟩ rfl rfl (Nat.le_of_ble_eq_true rfl) dL_law_1781 rfl hcr ?_
  intro r3 U4 q5
  obtain ⟨hiU4, hfU4, q5, huU4⟩ := q5
  have hxU4 : XX U4 := XX.fr hX hI hfU4 rfl
  refine kw_pop 1785 F dL_law_1784 rfl rfl ?_
  refine kw_aload_n 1786 F 2 dL_law_1785 rfl rfl rfl ?_
  refine kw_aload_n 1787 F 0 dL_law_1786 rfl rfl rfl ?_
  refine kw_iload_n 1788 F 3 dL_law_1787 rfl rfl rfl ?_
  refine kw_iconst 1789 F dL_law_1788 rfl ?_
  refine kw_iadd 1790 F (v := i + 1) dL_law_1789 rfl rfl ?_
  refine kw_sld 1791 F S hL (z := i + 1) (by omega) dL_law_1790 rfl ?_
  refine kw_aload_n 1792 F 0 dL_law_1791 rfl rfl rfl ?_
  refine kw_iload_n 1793 F 3 dL_law_1792 rfl rfl rfl ?_
  refine kw_iconst 1794 F dL_law_1793 rfl ?_
  refine kw_iadd 1795 F (v := i + 2) dL_law_1794 rfl rfl ?_
  refine kw_sld 1796 F S hL (z := i + 2) (by omega) dL_law_1795 rfl ?_
  refine kw_VMi 1799 F (As := [vI (sv sq (i + 1)), vI (sv sq (i + 2))]) (st := []) vd_L_190 (e_share3m G l N (sv sq (i + 1)) (sv sq (i + 2)) hJ (by omega) q hR hT) kd_163 rfl rfl rfl ⟨by decide, by decide⟩ rfl rfl (Nat.le_of_ble_eq_true rfl) dL_law_1796 rfl hcr ?_
  intro r8 U9 q10
  obtain ⟨hiU9, hfU9, q10, huU9⟩ := q10
  have hyU9 : YY U9 := YY.fr hY hfU9 rfl
  rw [hS.u.2.2.1] at huU4
  rw [hR.u.1, hR.u.2.1, hR.u.2.2.1] at huU9
  have he := zSHR.u huU4 huU9
  have ht : Tie U4 U9 := (Tie.m (Tie.c hm hI hfU4 rfl) hJ hfU9 rfl hiU4 (fun i => congrFun (Fr.fn hfU9 kd_164 rfl) i))
  refine kw_pop 1800 F dL_law_1799 rfl rfl ?_
  refine kw_goto 2050 F dL_law_1800 (by decide) ?_
  exact K U4 U9 hiU4 hxU4 hiU9 hyU9 ht
set_option maxHeartbeats 4000000 in
set_option maxRecDepth 100000 in
theorem lc_lastAt {G : KG} {X : KX} {l : Launch} {b L : Nat} {sq : Nat → Int32} {ce sl : Nat} (F : kF false G X l code RL 4 (some .boolean) room_1) (S : LSq X b L sq) (hL : L ≤ 3072) (hcr : ce ≤ 600000 ∧ sl ≤ 7302250) {M N : Mem} (hI : Inv false M) (hX : XX M) (hJ : Inv true N) (hY : YY N) (hm : Tie M N) {i : Int} (hi : 0 ≤ i ∧ i + 6 ≤ L) (K : ∀ M' N' : Mem, Inv false M' → XX M' → Inv true N' → YY N' → Tie M' N' → LJ G X ce sl M' N' 2050 [some (.ref b), some (vR G 0), some (vR G 163), some (vI i)] []) : LJ G X ce sl M N 1803 [some (.ref b), some (vR G 0), some (vR G 163), some (vI i)] [] := by
  refine kw_aload_n 1804 F 1 dL_law_1803 rfl rfl rfl ?_
  refine kw_aload_n 1805 F 0 dL_law_1804 rfl rfl rfl ?_
  refine kw_iload_n 1806 F 3 dL_law_1805 rfl rfl rfl ?_
  refine kw_iconst 1807 F dL_law_1806 rfl ?_
  refine kw_iadd 1808 F (v := i + 1) dL_law_1807 rfl rfl ?_
  refine kw_sld 1809 F S hL (z := i + 1) (by omega) dL_law_1808 rfl ?_
  have hs1 := sv_rng sq (i + 1)
  refine kw_aload_n 1810 F 0 dL_law_1809 rfl rfl rfl ?_
  refine kw_iload_n 1811 F 3 dL_law_1810 rfl rfl rfl ?_
  refine kw_iconst 1812 F dL_law_1811 rfl ?_
  refine kw_iadd 1813 F (v := i + 2) dL_law_1812 rfl rfl ?_
  refine kw_sld 1814 F S hL (z := i + 2) (by omega) dL_law_1813 rfl ?_
  have hs2 := sv_rng sq (i + 2)
  refine kw_aload_n 1815 F 0 dL_law_1814 rfl rfl rfl ?_
  refine kw_iload_n 1816 F 3 dL_law_1815 rfl rfl rfl ?_
  refine kw_iconst 1817 F dL_law_1816 rfl ?_
  refine kw_iadd 1818 F (v := i + 3) dL_law_1817 rfl rfl ?_
  refine kw_sld 1819 F S hL (z := i + 3) (by omega) dL_law_1818 rfl ?_
  have hs3 := sv_rng sq (i + 3)
  refine kw_VCi 1822 F (As := [vI (sv sq (i + 1)), vI (sv sq (i + 2)), vI (sv sq (i + 3))]) (st := []) vd_L_191 (c_X11_lastAt G l M 0 (sv sq (i + 1)) (sv sq (i + 2)) (sv sq (i + 3)) hI kd_0 (by omega)) kd_0 rfl rfl rfl ⟨by decide, by decide⟩ rfl rfl (Nat.le_of_ble_eq_true rfl) dL_law_1819 rfl hcr ?_
  intro r4 U5 q6
  obtain ⟨hiU5, hfU5, q6⟩ := q6
  have hxU5 : XX U5 := XX.fr hX hI hfU5 rfl
  refine kw_pop 1823 F dL_law_1822 rfl rfl ?_
  refine kw_aload_n 1824 F 2 dL_law_1823 rfl rfl rfl ?_
  refine kw_aload_n 1825 F 0 dL_law_1824 rfl rfl rfl ?_
  refine kw_iload_n 1826 F 3 dL_law_1825 rfl rfl rfl ?_
  refine kw_iconst 1827 F dL_law_1826 rfl ?_
  refine kw_iadd 1828 F (v := i + 1) dL_law_1827 rfl rfl ?_
  refine kw_sld 1829 F S hL (z := i + 1) (by omega) dL_law_1828 rfl ?_
  refine kw_aload_n 1830 F 0 dL_law_1829 rfl rfl rfl ?_
  refine kw_iload_n 1831 F 3 dL_law_1830 rfl rfl rfl ?_
  refine kw_iconst 1832 F dL_law_1831 rfl ?_
  refine kw_iadd 1833 F (v := i + 2) dL_law_1832 rfl rfl ?_
  refine kw_sld 1834 F S hL (z := i + 2) (by omega) dL_law_1833 rfl ?_
  refine kw_aload_n 1835 F 0 dL_law_1834 rfl rfl rfl ?_
  refine kw_iload_n 1836 F 3 dL_law_1835 rfl rfl rfl ?_
  refine kw_iconst 1837 F dL_law_1836 rfl ?_
  refine kw_iadd 1838 F (v := i + 3) dL_law_1837 rfl rfl ?_
  refine kw_sld 1839 F S hL (z := i + 3) (by omega) dL_law_1838 rfl ?_
  refine kw_VMi 1842 F (As := [vI (sv sq (i + 1)), vI (sv sq (i + 2)), vI (sv sq (i + 3))]) (st := []) vd_L_194 (c_X12_lastAt G l N (sv sq (i + 1)) (sv sq (i + 2)) (sv sq (i + 3)) hJ (by omega)) kd_163 rfl rfl rfl ⟨by decide, by decide⟩ rfl rfl (Nat.le_of_ble_eq_true rfl) dL_law_1839 rfl hcr ?_
  intro r10 U11 q12
  obtain ⟨hiU11, hfU11, q12⟩ := q12
  have hyU11 : YY U11 := YY.fr hY hfU11 rfl
  have ht : Tie U5 U11 := (Tie.m (Tie.c hm hI hfU5 rfl) hJ hfU11 rfl hiU5 (fun i => congrFun (Fr.fn hfU11 kd_164 rfl) i))
  refine kw_pop 1843 F dL_law_1842 rfl rfl ?_
  refine kw_goto 2050 F dL_law_1843 (by decide) ?_
  exact K U5 U11 hiU5 hxU5 hiU11 hyU11 ht
set_option maxHeartbeats 4000000 in
set_option maxRecDepth 100000 in
theorem lc_sample {G : KG} {X : KX} {l : Launch} {b L : Nat} {sq : Nat → Int32} {ce sl : Nat} (F : kF false G X l code RL 4 (some .boolean) room_1) (S : LSq X b L sq) (hL : L ≤ 3072) (hcr : ce ≤ 600000 ∧ sl ≤ 7302250) {M N : Mem} (hI : Inv false M) (hX : XX M) (hJ : Inv true N) (hY : YY N) (hm : Tie M N) {i : Int} (hi : 0 ≤ i ∧ i + 6 ≤ L) (K : ∀ M' N' : Mem, Inv false M' → XX M' → Inv true N' → YY N' → Tie M' N' → LJ G X ce sl M' N' 2050 [some (.ref b), some (vR G 0), some (vR G 163), some (vI i)] []) : LJ G X ce sl M N 1846 [some (.ref b), some (vR G 0), some (vR G 163), some (vI i)] [] := by
  obtain ⟨q, hV, hS, hU, hR, hT⟩ := hm.2.2.2.2.2.2.2.2.1.1
  refine kw_aload_n 1847 F 1 dL_law_1846 rfl rfl rfl ?_
  refine kw_aload_n 1848 F 0 dL_law_1847 rfl rfl rfl ?_
  refine kw_iload_n 1849 F 3 dL_law_1848 rfl rfl rfl ?_
  refine kw_iconst 1850 F dL_law_1849 rfl ?_
  refine kw_iadd 1851 F (v := i + 1) dL_law_1850 rfl rfl ?_
  refine kw_sld 1852 F S hL (z := i + 1) (by omega) dL_law_1851 rfl ?_
  have hs1 := sv_rng sq (i + 1)
  refine kw_aload_n 1853 F 0 dL_law_1852 rfl rfl rfl ?_
  refine kw_iload_n 1854 F 3 dL_law_1853 rfl rfl rfl ?_
  refine kw_iconst 1855 F dL_law_1854 rfl ?_
  refine kw_iadd 1856 F (v := i + 2) dL_law_1855 rfl rfl ?_
  refine kw_sld 1857 F S hL (z := i + 2) (by omega) dL_law_1856 rfl ?_
  have hs2 := sv_rng sq (i + 2)
  refine kw_aload_n 1858 F 0 dL_law_1857 rfl rfl rfl ?_
  refine kw_iload_n 1859 F 3 dL_law_1858 rfl rfl rfl ?_
  refine kw_iconst 1860 F dL_law_1859 rfl ?_
  refine kw_iadd 1861 F (v := i + 3) dL_law_1860 rfl rfl ?_
  refine kw_sld 1862 F S hL (z := i + 3) (by omega) dL_law_1861 rfl ?_
  have hs3 := sv_rng sq (i + 3)
  refine kw_VCi 1865 F (As := [vI (sv sq (i + 1)), vI (sv sq (i + 2)), vI (sv sq (i + 3))]) (st := []) vd_L_195 (e_sample3 G l M 0 (sv sq (i + 1)) (sv sq (i + 2)) (sv sq (i + 3)) hI kd_0 (by omega)) kd_0 rfl rfl rfl ⟨by decide, by decide⟩ rfl rfl (Nat.le_of_ble_eq_true rfl) dL_law_1862 rfl hcr ?_
  intro r4 U5 q6
  obtain ⟨hiU5, hfU5, q6, huU5⟩ := q6
  have hxU5 : XX U5 := XX.fr hX hI hfU5 rfl
  refine kw_pop 1866 F dL_law_1865 rfl rfl ?_
  refine kw_aload_n 1867 F 2 dL_law_1866 rfl rfl rfl ?_
  refine kw_aload_n 1868 F 0 dL_law_1867 rfl rfl rfl ?_
  refine kw_iload_n 1869 F 3 dL_law_1868 rfl rfl rfl ?_
  refine kw_iconst 1870 F dL_law_1869 rfl ?_
  refine kw_iadd 1871 F (v := i + 1) dL_law_1870 rfl rfl ?_
  refine kw_sld 1872 F S hL (z := i + 1) (by omega) dL_law_1871 rfl ?_
  refine kw_aload_n 1873 F 0 dL_law_1872 rfl rfl rfl ?_
  refine kw_iload_n 1874 F 3 dL_law_1873 rfl rfl rfl ?_
  refine kw_iconst 1875 F dL_law_1874 rfl ?_
  refine kw_iadd 1876 F (v := i + 2) dL_law_1875 rfl rfl ?_
  refine kw_sld 1877 F S hL (z := i + 2) (by omega) dL_law_1876 rfl ?_
  refine kw_aload_n 1878 F 0 dL_law_1877 rfl rfl rfl ?_
  refine kw_iload_n 1879 F 3 dL_law_1878 rfl rfl rfl ?_
  refine kw_iconst 1880 F dL_law_1879 rfl ?_
  refine kw_iadd 1881 F (v := i + 3) dL_law_1880 rfl rfl ?_
  refine kw_sld 1882 F S hL (z := i + 3) (by omega) dL_law_1881 rfl ?_
  refine kw_VMi 1885 F (As := [vI (sv sq (i + 1)), vI (sv sq (i + 2)), vI (sv sq (i + 3))]) (st := []) vd_L_198 (e_sample3m G l N (sv sq (i + 1)) (sv sq (i + 2)) (sv sq (i + 3)) hJ (by omega)) kd_163 rfl rfl rfl ⟨by decide, by decide⟩ rfl rfl (Nat.le_of_ble_eq_true rfl) dL_law_1882 rfl hcr ?_
  intro r10 U11 q12
  obtain ⟨hiU11, hfU11, q12, huU11⟩ := q12
  have hyU11 : YY U11 := YY.fr hY hfU11 rfl
  have eT := at_T hI
  have eP := at_P hI
  have eS := at_S hI
  have eV := at_V hI
  rw [eT, eV, eP, eS, hm.2.2.2.2.2.2.2.2.2.1, hm.2.2.1, hm.2.2.2.1, hS.u.2.2.1] at huU5
  rw [hR.u.1, hR.u.2.1, hR.u.2.2.1] at huU11
  have h10 := (zSM.u huU5 huU11).2
  have he := (zSM.u huU5 huU11).1
  have ht : Tie U5 U11 := ⟨(Fr.e hfU5 kd_0 7 rfl).trans (hm.1.trans (Fr.e hfU11 kd_163 50 rfl).symm), (Fr.e hfU5 kd_x5 1 rfl).trans (hm.2.1.trans (Fr.e hfU11 kd_163 10 rfl).symm), (Fr.fn hfU5 kd_x4 rfl).trans (hm.2.2.1.trans (Fr.fn hfU11 kd_y6 rfl).symm), (Fr.fn hfU5 kd_x3 rfl).trans (hm.2.2.2.1.trans (Fr.fn hfU11 kd_y5 rfl).symm), (Fr.fn hfU5 kd_x6 rfl).trans (hm.2.2.2.2.1.trans (Fr.fn hfU11 kd_169 rfl).symm), (Fr.e hfU5 kd_x5 2 rfl).trans (hm.2.2.2.2.2.1.trans (Fr.e hfU11 kd_163 16 rfl).symm), (Fr.e hfU5 kd_x5 3 rfl).trans (hm.2.2.2.2.2.2.1.trans (Fr.e hfU11 kd_163 17 rfl).symm), FZ.fr hm.2.2.2.2.2.2.2.1 hfU5 rfl, (zTS.m (zTS.c hm.2.2.2.2.2.2.2.2.1 hI hfU5 rfl) (fun i _ _ _ => congrFun (Fr.fn hfU11 kd_164 rfl) i)), h10, (zTQ.m (zTQ.c hm.2.2.2.2.2.2.2.2.2.2.1 (Fr.e hfU5 kd_0 7 rfl)) hJ (fun i _ _ _ => congrFun (Fr.fn hfU11 kd_164 rfl) i)), (zTW.m (zTW.c hm.2.2.2.2.2.2.2.2.2.2.2.1 hI hm.2.2.2.2.2.2.2.1 hfU5 rfl) hiU5 (FZ.fr hm.2.2.2.2.2.2.2.1 hfU5 rfl) (fun i _ => congrFun (Fr.fn hfU11 kd_164 rfl) i)), (zTL.fr hm.2.2.2.2.2.2.2.2.2.2.2.2 hI hfU5 rfl (fun i _ _ => congrFun (Fr.fn hfU11 kd_164 rfl) i))⟩
  refine kw_pop 1886 F dL_law_1885 rfl rfl ?_
  refine kw_goto 2050 F dL_law_1886 (by decide) ?_
  exact K U5 U11 hiU5 hxU5 hiU11 hyU11 ht
set_option maxHeartbeats 4000000 in
set_option maxRecDepth 100000 in
theorem lc_chance {G : KG} {X : KX} {l : Launch} {b L : Nat} {sq : Nat → Int32} {ce sl : Nat} (F : kF false G X l code RL 4 (some .boolean) room_1) (S : LSq X b L sq) (hL : L ≤ 3072) (hcr : ce ≤ 600000 ∧ sl ≤ 7302250) {M N : Mem} (hI : Inv false M) (hX : XX M) (hJ : Inv true N) (hY : YY N) (hm : Tie M N) {i : Int} (hi : 0 ≤ i ∧ i + 6 ≤ L) (K : ∀ M' N' : Mem, Inv false M' → XX M' → Inv true N' → YY N' → Tie M' N' → LJ G X ce sl M' N' 2050 [some (.ref b), some (vR G 0), some (vR G 163), some (vI i)] []) : LJ G X ce sl M N 1889 [some (.ref b), some (vR G 0), some (vR G 163), some (vI i)] [] := by
  obtain ⟨q, hV, hS, hU, hR, hT⟩ := hm.2.2.2.2.2.2.2.2.1.1
  refine kw_aload_n 1890 F 1 dL_law_1889 rfl rfl rfl ?_
  refine kw_aload_n 1891 F 0 dL_law_1890 rfl rfl rfl ?_
  refine kw_iload_n 1892 F 3 dL_law_1891 rfl rfl rfl ?_
  refine kw_iconst 1893 F dL_law_1892 rfl ?_
  refine kw_iadd 1894 F (v := i + 1) dL_law_1893 rfl rfl ?_
  refine kw_sld 1895 F S hL (z := i + 1) (by omega) dL_law_1894 rfl ?_
  have hs1 := sv_rng sq (i + 1)
  refine kw_aload_n 1896 F 0 dL_law_1895 rfl rfl rfl ?_
  refine kw_iload_n 1897 F 3 dL_law_1896 rfl rfl rfl ?_
  refine kw_iconst 1898 F dL_law_1897 rfl ?_
  refine kw_iadd 1899 F (v := i + 2) dL_law_1898 rfl rfl ?_
  refine kw_sld 1900 F S hL (z := i + 2) (by omega) dL_law_1899 rfl ?_
  have hs2 := sv_rng sq (i + 2)
  refine kw_aload_n 1901 F 0 dL_law_1900 rfl rfl rfl ?_
  refine kw_iload_n 1902 F 3 dL_law_1901 rfl rfl rfl ?_
  refine kw_iconst 1903 F dL_law_1902 rfl ?_
  refine kw_iadd 1904 F (v := i + 3) dL_law_1903 rfl rfl ?_
  refine kw_sld 1905 F S hL (z := i + 3) (by omega) dL_law_1904 rfl ?_
  have hs3 := sv_rng sq (i + 3)
  refine kw_aload_n 1906 F 0 dL_law_1905 rfl rfl rfl ?_
  refine kw_iload_n 1907 F 3 dL_law_1906 rfl rfl rfl ?_
  refine kw_iconst 1908 F dL_law_1907 rfl ?_
  refine kw_iadd 1909 F (v := i + 4) dL_law_1908 rfl rfl ?_
  refine kw_sld 1910 F S hL (z := i + 4) (by omega) dL_law_1909 rfl ?_
  have hs4 := sv_rng sq (i + 4)
  refine kw_VCi 1913 F (As := [vI (sv sq (i + 1)), vI (sv sq (i + 2)), vI (sv sq (i + 3)), vI (sv sq (i + 4))]) (st := []) vd_L_199 (e_chance5 G l M 0 (sv sq (i + 1)) (sv sq (i + 2)) (sv sq (i + 3)) (sv sq (i + 4)) hI kd_0 (by omega) q hS hU) kd_0 rfl rfl rfl ⟨by decide, by decide⟩ rfl rfl (Nat.le_of_ble_eq_true rfl) dL_law_1910 rfl hcr ?_
  intro r5 U6 q7
  obtain ⟨hiU6, hfU6, q7, hcfU6, huU6⟩ := q7
  have hxU6 : XX U6 := XX.fr hX hI hfU6 rfl
  refine kw_pop 1914 F dL_law_1913 rfl rfl ?_
  refine kw_aload_n 1915 F 2 dL_law_1914 rfl rfl rfl ?_
  refine kw_aload_n 1916 F 0 dL_law_1915 rfl rfl rfl ?_
  refine kw_iload_n 1917 F 3 dL_law_1916 rfl rfl rfl ?_
  refine kw_iconst 1918 F dL_law_1917 rfl ?_
  refine kw_iadd 1919 F (v := i + 1) dL_law_1918 rfl rfl ?_
  refine kw_sld 1920 F S hL (z := i + 1) (by omega) dL_law_1919 rfl ?_
  refine kw_aload_n 1921 F 0 dL_law_1920 rfl rfl rfl ?_
  refine kw_iload_n 1922 F 3 dL_law_1921 rfl rfl rfl ?_
  refine kw_iconst 1923 F dL_law_1922 rfl ?_
  refine kw_iadd 1924 F (v := i + 2) dL_law_1923 rfl rfl ?_
  refine kw_sld 1925 F S hL (z := i + 2) (by omega) dL_law_1924 rfl ?_
  refine kw_aload_n 1926 F 0 dL_law_1925 rfl rfl rfl ?_
  refine kw_iload_n 1927 F 3 dL_law_1926 rfl rfl rfl ?_
  refine kw_iconst 1928 F dL_law_1927 rfl ?_
  refine kw_iadd 1929 F (v := i + 3) dL_law_1928 rfl rfl ?_
  refine kw_sld 1930 F S hL (z := i + 3) (by omega) dL_law_1929 rfl ?_
  refine kw_aload_n 1931 F 0 dL_law_1930 rfl rfl rfl ?_
  refine kw_iload_n 1932 F 3 dL_law_1931 rfl rfl rfl ?_
  refine kw_iconst 1933 F dL_law_1932 rfl ?_
  refine kw_iadd 1934 F (v := i + 4) dL_law_1933 rfl rfl ?_
  refine kw_sld 1935 F S hL (z := i + 4) (by omega) dL_law_1934 rfl ?_
  refine kw_VMi 1938 F (As := [vI (sv sq (i + 1)), vI (sv sq (i + 2)), vI (sv sq (i + 3)), vI (sv sq (i + 4))]) (st := []) vd_L_203 (e_chance3m G l N (sv sq (i + 1)) (sv sq (i + 2)) (sv sq (i + 3)) (sv sq (i + 4)) hJ (by omega) q hR hT) kd_163 rfl rfl rfl ⟨by decide, by decide⟩ rfl rfl (Nat.le_of_ble_eq_true rfl) dL_law_1935 rfl hcr ?_
  intro r12 U13 q14
  obtain ⟨hiU13, hfU13, q14, huU13⟩ := q14
  have hyU13 : YY U13 := YY.fr hY hfU13 rfl
  rw [hS.u.2.2.1] at huU6
  rw [hR.u.1, hR.u.2.1, hR.u.2.2.1] at huU13
  have he := zCHN.u huU6 huU13
  have ht : Tie U6 U13 := ⟨(Fr.e hfU6 kd_0 7 rfl).trans (hm.1.trans (Fr.e hfU13 kd_163 50 rfl).symm), (Fr.e hfU6 kd_x5 1 rfl).trans (hm.2.1.trans (Fr.e hfU13 kd_163 10 rfl).symm), (Fr.fn hfU6 kd_x4 rfl).trans (hm.2.2.1.trans (Fr.fn hfU13 kd_y6 rfl).symm), (Fr.fn hfU6 kd_x3 rfl).trans (hm.2.2.2.1.trans (Fr.fn hfU13 kd_y5 rfl).symm), (Fr.fn hfU6 kd_x6 rfl).trans (hm.2.2.2.2.1.trans (Fr.fn hfU13 kd_169 rfl).symm), (Fr.e hfU6 kd_x5 2 rfl).trans (hm.2.2.2.2.2.1.trans (Fr.e hfU13 kd_163 16 rfl).symm), (Fr.e hfU6 kd_x5 3 rfl).trans (hm.2.2.2.2.2.2.1.trans (Fr.e hfU13 kd_163 17 rfl).symm), FZ.fr hm.2.2.2.2.2.2.2.1 hfU6 rfl, (zTS.m (zTS.c hm.2.2.2.2.2.2.2.2.1 hI hfU6 rfl) (fun i _ _ _ => congrFun (Fr.fn hfU13 kd_164 rfl) i)), (Fr.fn hfU6 kd_x2 rfl).trans (hm.2.2.2.2.2.2.2.2.2.1.trans (Fr.fn hfU13 kd_y7 rfl).symm), (zTQ.m (zTQ.c hm.2.2.2.2.2.2.2.2.2.2.1 (Fr.e hfU6 kd_0 7 rfl)) hJ (fun i _ _ _ => congrFun (Fr.fn hfU13 kd_164 rfl) i)), (zTW.oth hm.2.2.2.2.2.2.2.2.2.2.2.1 hI hiU6 hm.2.2.2.2.2.2.2.1 (FZ.fr hm.2.2.2.2.2.2.2.1 hfU6 rfl) (Fr.e hfU6 kd_0 5 rfl) (Fr.e hfU6 kd_0 7 rfl) (Fr.e hfU6 kd_0 12 rfl) (Fr.fn hfU6 kd_x9 rfl) hcfU6 (fun s hs y a b c => SWk.mon c hm.2.2.2.2.2.2.2.2.2.2.2.1.1 hm.2.2.2.2.2.2.2.1 hs a) (fun i _ _ => congrFun (Fr.fn hfU13 kd_164 rfl) i)), (zTL.fr hm.2.2.2.2.2.2.2.2.2.2.2.2 hI hfU6 rfl (fun i _ _ => congrFun (Fr.fn hfU13 kd_164 rfl) i))⟩
  refine kw_pop 1939 F dL_law_1938 rfl rfl ?_
  refine kw_goto 2050 F dL_law_1939 (by decide) ?_
  exact K U6 U13 hiU6 hxU6 hiU13 hyU13 ht
set_option maxHeartbeats 4000000 in
set_option maxRecDepth 100000 in
theorem lc_watch {G : KG} {X : KX} {l : Launch} {b L : Nat} {sq : Nat → Int32} {ce sl : Nat} (F : kF false G X l code RL 4 (some .boolean) room_1) (S : LSq X b L sq) (hL : L ≤ 3072) (hcr : ce ≤ 600000 ∧ sl ≤ 7302250) {M N : Mem} (hI : Inv false M) (hX : XX M) (hJ : Inv true N) (hY : YY N) (hm : Tie M N) {i : Int} (hi : 0 ≤ i ∧ i + 6 ≤ L) (K : ∀ M' N' : Mem, Inv false M' → XX M' → Inv true N' → YY N' → Tie M' N' → LJ G X ce sl M' N' 2050 [some (.ref b), some (vR G 0), some (vR G 163), some (vI i)] []) : LJ G X ce sl M N 1942 [some (.ref b), some (vR G 0), some (vR G 163), some (vI i)] [] := by
  obtain ⟨q, hV, hS, hU, hR, hT⟩ := hm.2.2.2.2.2.2.2.2.1.1
  refine kw_aload_n 1943 F 1 dL_law_1942 rfl rfl rfl ?_
  refine kw_aload_n 1944 F 0 dL_law_1943 rfl rfl rfl ?_
  refine kw_iload_n 1945 F 3 dL_law_1944 rfl rfl rfl ?_
  refine kw_iconst 1946 F dL_law_1945 rfl ?_
  refine kw_iadd 1947 F (v := i + 1) dL_law_1946 rfl rfl ?_
  refine kw_sld 1948 F S hL (z := i + 1) (by omega) dL_law_1947 rfl ?_
  have hs1 := sv_rng sq (i + 1)
  refine kw_VCi 1951 F (As := [vI (sv sq (i + 1))]) (st := []) vd_L_204 (e_watch4 G l M 0 (sv sq (i + 1)) hI kd_0 (by omega) q hS hU) kd_0 rfl rfl rfl ⟨by decide, by decide⟩ rfl rfl (Nat.le_of_ble_eq_true rfl) dL_law_1948 rfl hcr ?_
  intro r2 U3 q4
  obtain ⟨hiU3, hfU3, q4, hcfU3, huU3⟩ := q4
  have hxU3 : XX U3 := XX.fr hX hI hfU3 rfl
  refine kw_pop 1952 F dL_law_1951 rfl rfl ?_
  refine kw_aload_n 1953 F 2 dL_law_1952 rfl rfl rfl ?_
  refine kw_aload_n 1954 F 0 dL_law_1953 rfl rfl rfl ?_
  refine kw_iload_n 1955 F 3 dL_law_1954 rfl rfl rfl ?_
  refine kw_iconst 1956 F dL_law_1955 rfl ?_
  refine kw_iadd 1957 F (v := i + 1) dL_law_1956 rfl rfl ?_
  refine kw_sld 1958 F S hL (z := i + 1) (by omega) dL_law_1957 rfl ?_
  refine kw_VMi 1961 F (As := [vI (sv sq (i + 1))]) (st := []) vd_L_207 (e_watch4m G l N (sv sq (i + 1)) hJ (by omega) hY q hR hT) kd_163 rfl rfl rfl ⟨by decide, by decide⟩ rfl rfl (Nat.le_of_ble_eq_true rfl) dL_law_1958 rfl hcr ?_
  intro r6 U7 q8
  obtain ⟨hiU7, hfU7, q8, ⟨hyU7, huU7⟩⟩ := q8
  obtain ⟨wM1, wM2, wM3⟩ := huU3
  obtain ⟨⟨wN1, wN2⟩, wN3, wN4⟩ := huU7
  have he := zWA.u wM1 wN2
  have hmn := fz_mon hI hm.2.2.2.2.2.2.2.1
  have hcl : Cf (fun y => M 0 5 + 15 ≤ y ∧ y < M 0 5 + 19) M U3 := Cf.mo hcfU3 (fun y hy => SWk.lv hy hI hm.2.2.2.2.2.2.2.1)
  rw [hmn] at wM2
  have htw : zTW U3 U7 := by
    by_cases c : 0 ≤ (sv sq (i + 1)) ∧ (sv sq (i + 1)) < q 3
    · exact zTW.live hm.2.2.2.2.2.2.2.2.2.2.2.1 hI hiU3 hm.2.2.2.2.2.2.2.1 (FZ.fr hm.2.2.2.2.2.2.2.1 hfU3 rfl) hm.2.2.2.2.2.2.2.2.1.2.2 (Fr.e hfU3 kd_0 5 rfl) (Fr.e hfU3 kd_0 7 rfl) (Fr.e hfU3 kd_0 12 rfl) (Fr.fn hfU3 kd_x9 rfl) hcl (zWN.beg (wM2 c.1 c.2) (wN3 c.1 c.2) (by rw [wN1 3 (by decide), hR.u.2.2.2.1]; exact c.2)) (fun i _ b => wN1 i (by omega))
    · exact zTW.oth hm.2.2.2.2.2.2.2.2.2.2.2.1 hI hiU3 hm.2.2.2.2.2.2.2.1 (FZ.fr hm.2.2.2.2.2.2.2.1 hfU3 rfl) (Fr.e hfU3 kd_0 5 rfl) (Fr.e hfU3 kd_0 7 rfl) (Fr.e hfU3 kd_0 12 rfl) (Fr.fn hfU3 kd_x9 rfl) (wM3 c) (fun s hs y a b c => c) (fun i _ _ => by rw [wN4 c])
  have ht : Tie U3 U7 := ⟨(Fr.e hfU3 kd_0 7 rfl).trans (hm.1.trans (Fr.e hfU7 kd_163 50 rfl).symm), (Fr.e hfU3 kd_x5 1 rfl).trans (hm.2.1.trans (Fr.e hfU7 kd_163 10 rfl).symm), (Fr.fn hfU3 kd_x4 rfl).trans (hm.2.2.1.trans (Fr.fn hfU7 kd_y6 rfl).symm), (Fr.fn hfU3 kd_x3 rfl).trans (hm.2.2.2.1.trans (Fr.fn hfU7 kd_y5 rfl).symm), (Fr.fn hfU3 kd_x6 rfl).trans (hm.2.2.2.2.1.trans (Fr.fn hfU7 kd_169 rfl).symm), (Fr.e hfU3 kd_x5 2 rfl).trans (hm.2.2.2.2.2.1.trans (Fr.e hfU7 kd_163 16 rfl).symm), (Fr.e hfU3 kd_x5 3 rfl).trans (hm.2.2.2.2.2.2.1.trans (Fr.e hfU7 kd_163 17 rfl).symm), FZ.fr hm.2.2.2.2.2.2.2.1 hfU3 rfl, (zTS.m (zTS.c hm.2.2.2.2.2.2.2.2.1 hI hfU3 rfl) (fun i a _ _ => wN1 i a)), (Fr.fn hfU3 kd_x2 rfl).trans (hm.2.2.2.2.2.2.2.2.2.1.trans (Fr.fn hfU7 kd_y7 rfl).symm), (zTQ.m (zTQ.c hm.2.2.2.2.2.2.2.2.2.2.1 (Fr.e hfU3 kd_0 7 rfl)) hJ (fun i a _ _ => wN1 i a)), htw, (zTL.fr hm.2.2.2.2.2.2.2.2.2.2.2.2 hI hfU3 rfl (fun i a _ => wN1 i a))⟩
  refine kw_pop 1962 F dL_law_1961 rfl rfl ?_
  refine kw_goto 2050 F dL_law_1962 (by decide) ?_
  exact K U3 U7 hiU3 hxU3 hiU7 hyU7 ht
set_option maxHeartbeats 4000000 in
set_option maxRecDepth 100000 in
theorem lc_see {G : KG} {X : KX} {l : Launch} {b L : Nat} {sq : Nat → Int32} {ce sl : Nat} (F : kF false G X l code RL 4 (some .boolean) room_1) (S : LSq X b L sq) (hL : L ≤ 3072) (hcr : ce ≤ 600000 ∧ sl ≤ 7302250) {M N : Mem} (hI : Inv false M) (hX : XX M) (hJ : Inv true N) (hY : YY N) (hm : Tie M N) {i : Int} (hi : 0 ≤ i ∧ i + 6 ≤ L) (K : ∀ M' N' : Mem, Inv false M' → XX M' → Inv true N' → YY N' → Tie M' N' → LJ G X ce sl M' N' 2050 [some (.ref b), some (vR G 0), some (vR G 163), some (vI i)] []) : LJ G X ce sl M N 1965 [some (.ref b), some (vR G 0), some (vR G 163), some (vI i)] [] := by
  obtain ⟨q, hV, hS, hU, hR, hT⟩ := hm.2.2.2.2.2.2.2.2.1.1
  have hg3 : N 164 3 = q 3 := hR.u.2.2.2.1
  have hW : zWN M (M (M 0 5) 6) (N 164) := by rw [fz_mon hI hm.2.2.2.2.2.2.2.1]; exact hm.2.2.2.2.2.2.2.2.2.2.2.1.2.1
  have hw4 : 0 ≤ N 164 4 → N 164 4 < q 3 := fun h => by have z := (hm.2.2.2.2.2.2.2.2.2.2.2.1.2.1.2 h).1; omega
  have hC : zQC q := zQC.of hm.2.2.2.2.2.2.2.2.2.2.1.1 hV hR hT
  refine kw_aload_n 1966 F 1 dL_law_1965 rfl rfl rfl ?_
  refine kw_aload_n 1967 F 0 dL_law_1966 rfl rfl rfl ?_
  refine kw_iload_n 1968 F 3 dL_law_1967 rfl rfl rfl ?_
  refine kw_iconst 1969 F dL_law_1968 rfl ?_
  refine kw_iadd 1970 F (v := i + 1) dL_law_1969 rfl rfl ?_
  refine kw_sld 1971 F S hL (z := i + 1) (by omega) dL_law_1970 rfl ?_
  have hs1 := sv_rng sq (i + 1)
  refine kw_VCi 1974 F (As := [vI (sv sq (i + 1))]) (st := []) vd_L_208 (e_see3 G l M 0 (sv sq (i + 1)) hI kd_0 (by omega) q hS hU (N 164) hW hg3) kd_0 rfl rfl rfl ⟨by decide, by decide⟩ rfl rfl (Nat.le_of_ble_eq_true rfl) dL_law_1971 rfl hcr ?_
  intro r2 U3 q4
  obtain ⟨hiU3, hfU3, q4, hcfU3, huU3⟩ := q4
  have hxU3 : XX U3 := XX.fr hX hI hfU3 rfl
  refine kw_aload_n 1975 F 2 dL_law_1974 rfl rfl rfl ?_
  refine kw_aload_n 1976 F 0 dL_law_1975 rfl rfl rfl ?_
  refine kw_iload_n 1977 F 3 dL_law_1976 rfl rfl rfl ?_
  refine kw_iconst 1978 F dL_law_1977 rfl ?_
  refine kw_iadd 1979 F (v := i + 1) dL_law_1978 rfl rfl ?_
  refine kw_sld 1980 F S hL (z := i + 1) (by omega) dL_law_1979 rfl ?_
  refine kw_VMi 1983 F (As := [vI (sv sq (i + 1))]) (st := [vI r2]) vd_L_211 (e_see3m G l N (sv sq (i + 1)) hJ (by omega) hY q hR hT hC hV hw4) kd_163 rfl rfl rfl ⟨by decide, by decide⟩ rfl rfl (Nat.le_of_ble_eq_true rfl) dL_law_1980 rfl hcr ?_
  intro r6 U7 q8
  obtain ⟨hiU7, hfU7, q8, ⟨hyU7, huU7⟩⟩ := q8
  obtain ⟨⟨g1, sM1, sM2⟩, _⟩ := huU3
  obtain ⟨sN0, g2, sN1, sN2⟩ := huU7
  have hz := zSE.u sM1 sN1
  have he := hz.1
  have hzq := hz.2
  subst hzq
  have hmn := fz_mon hI hm.2.2.2.2.2.2.2.1
  have hcl : Cf (fun y => M 0 5 + 15 ≤ y ∧ y < M 0 5 + 19) M U3 := Cf.mo hcfU3 (fun y hy => SWk.lv hy hI hm.2.2.2.2.2.2.2.1)
  rw [hmn] at sM2
  have htw : zTW U3 U7 := zTW.live hm.2.2.2.2.2.2.2.2.2.2.2.1 hI hiU3 hm.2.2.2.2.2.2.2.1 (FZ.fr hm.2.2.2.2.2.2.2.1 hfU3 rfl) hm.2.2.2.2.2.2.2.2.1.2.2 (Fr.e hfU3 kd_0 5 rfl) (Fr.e hfU3 kd_0 7 rfl) (Fr.e hfU3 kd_0 12 rfl) (Fr.fn hfU3 kd_x9 rfl) hcl (zWN.cg sM2 hiU3 (kd_mon hI hm.2.2.2.2.2.2.2.1 (kd_lv hI)) (fun i a b => sN2 i a b)) (fun i _ b => sN0 i (by omega))
  have ht : Tie U3 U7 := ⟨(Fr.e hfU3 kd_0 7 rfl).trans (hm.1.trans (Fr.e hfU7 kd_163 50 rfl).symm), (Fr.e hfU3 kd_x5 1 rfl).trans (hm.2.1.trans (Fr.e hfU7 kd_163 10 rfl).symm), (Fr.fn hfU3 kd_x4 rfl).trans (hm.2.2.1.trans (Fr.fn hfU7 kd_y6 rfl).symm), (Fr.fn hfU3 kd_x3 rfl).trans (hm.2.2.2.1.trans (Fr.fn hfU7 kd_y5 rfl).symm), (Fr.fn hfU3 kd_x6 rfl).trans (hm.2.2.2.2.1.trans (Fr.fn hfU7 kd_169 rfl).symm), (Fr.e hfU3 kd_x5 2 rfl).trans (hm.2.2.2.2.2.1.trans (Fr.e hfU7 kd_163 16 rfl).symm), (Fr.e hfU3 kd_x5 3 rfl).trans (hm.2.2.2.2.2.2.1.trans (Fr.e hfU7 kd_163 17 rfl).symm), FZ.fr hm.2.2.2.2.2.2.2.1 hfU3 rfl, (zTS.m (zTS.c hm.2.2.2.2.2.2.2.2.1 hI hfU3 rfl) (fun i a _ _ => sN0 i a)), (Fr.fn hfU3 kd_x2 rfl).trans (hm.2.2.2.2.2.2.2.2.2.1.trans (Fr.fn hfU7 kd_y7 rfl).symm), (zTQ.m (zTQ.c hm.2.2.2.2.2.2.2.2.2.2.1 (Fr.e hfU3 kd_0 7 rfl)) hJ (fun i a _ _ => sN0 i a)), htw, (zTL.fr hm.2.2.2.2.2.2.2.2.2.2.2.2 hI hfU3 rfl (fun i a _ => sN0 i a))⟩
  have hb7 : 0 ≤ M 0 7 ∧ M 0 7 ≤ 3 := Inv.g hI kd_0 rfl 7 rfl rfl
  have hb1 : 0 ≤ M 5 1 ∧ M 5 1 ≤ 900 := Inv.g hI kd_x5 rfl 1 rfl rfl
  have hb2 := hm.1
  have hb3 := hm.2.1
  refine kw_icmp_eq 1986 F 2050 dL_law_1983 (by decide) rfl (by omega) (by omega) (fun h9 => ?_) (fun h9 => absurd he h9)
  exact K U3 U7 hiU3 hxU3 hiU7 hyU7 ht
set_option maxHeartbeats 4000000 in
set_option maxRecDepth 100000 in
theorem lc_seen {G : KG} {X : KX} {l : Launch} {b L : Nat} {sq : Nat → Int32} {ce sl : Nat} (F : kF false G X l code RL 4 (some .boolean) room_1) (S : LSq X b L sq) (hL : L ≤ 3072) (hcr : ce ≤ 600000 ∧ sl ≤ 7302250) {M N : Mem} (hI : Inv false M) (hX : XX M) (hJ : Inv true N) (hY : YY N) (hm : Tie M N) {i : Int} (hi : 0 ≤ i ∧ i + 6 ≤ L) (K : ∀ M' N' : Mem, Inv false M' → XX M' → Inv true N' → YY N' → Tie M' N' → LJ G X ce sl M' N' 2050 [some (.ref b), some (vR G 0), some (vR G 163), some (vI i)] []) : LJ G X ce sl M N 1988 [some (.ref b), some (vR G 0), some (vR G 163), some (vI i)] [] := by
  obtain ⟨q, hV, hS, hU, hR, hT⟩ := hm.2.2.2.2.2.2.2.2.1.1
  have hg3 : N 164 3 = q 3 := hR.u.2.2.2.1
  have hW : zWN M (M (M 0 5) 6) (N 164) := by rw [fz_mon hI hm.2.2.2.2.2.2.2.1]; exact hm.2.2.2.2.2.2.2.2.2.2.2.1.2.1
  have hw4 : 0 ≤ N 164 4 → N 164 4 < q 3 := fun h => by have z := (hm.2.2.2.2.2.2.2.2.2.2.2.1.2.1.2 h).1; omega
  refine kw_aload_n 1989 F 1 dL_law_1988 rfl rfl rfl ?_
  refine kw_aload_n 1990 F 0 dL_law_1989 rfl rfl rfl ?_
  refine kw_iload_n 1991 F 3 dL_law_1990 rfl rfl rfl ?_
  refine kw_iconst 1992 F dL_law_1991 rfl ?_
  refine kw_iadd 1993 F (v := i + 1) dL_law_1992 rfl rfl ?_
  refine kw_sld 1994 F S hL (z := i + 1) (by omega) dL_law_1993 rfl ?_
  have hs1 := sv_rng sq (i + 1)
  refine kw_VCi 1997 F (As := [vI (sv sq (i + 1))]) (st := []) vd_L_212 (e_seen3 G l M 0 (sv sq (i + 1)) hI kd_0 (by omega) q hS hU (N 164) hW hg3) kd_0 rfl rfl rfl ⟨by decide, by decide⟩ rfl rfl (Nat.le_of_ble_eq_true rfl) dL_law_1994 rfl hcr ?_
  intro r2 U3 q4
  obtain ⟨hiU3, hfU3, q4, huU3⟩ := q4
  have hxU3 : XX U3 := XX.fr hX hI hfU3 rfl
  refine kw_pop 1998 F dL_law_1997 rfl rfl ?_
  refine kw_aload_n 1999 F 2 dL_law_1998 rfl rfl rfl ?_
  refine kw_aload_n 2000 F 0 dL_law_1999 rfl rfl rfl ?_
  refine kw_iload_n 2001 F 3 dL_law_2000 rfl rfl rfl ?_
  refine kw_iconst 2002 F dL_law_2001 rfl ?_
  refine kw_iadd 2003 F (v := i + 1) dL_law_2002 rfl rfl ?_
  refine kw_sld 2004 F S hL (z := i + 1) (by omega) dL_law_2003 rfl ?_
  refine kw_VMi 2007 F (As := [vI (sv sq (i + 1))]) (st := []) vd_L_215 (e_seen3m G l N (sv sq (i + 1)) hJ (by omega) q hR hT hw4) kd_163 rfl rfl rfl ⟨by decide, by decide⟩ rfl rfl (Nat.le_of_ble_eq_true rfl) dL_law_2004 rfl hcr ?_
  intro r6 U7 q8
  obtain ⟨hiU7, hfU7, q8, huU7⟩ := q8
  have hyU7 : YY U7 := YY.fr hY hfU7 rfl
  have he := zSN4.u huU3 huU7
  have ht : Tie U3 U7 := (Tie.m (Tie.c hm hI hfU3 rfl) hJ hfU7 rfl hiU3 (fun i => congrFun (Fr.fn hfU7 kd_164 rfl) i))
  refine kw_pop 2008 F dL_law_2007 rfl rfl ?_
  refine kw_goto 2050 F dL_law_2008 (by decide) ?_
  exact K U3 U7 hiU3 hxU3 hiU7 hyU7 ht
set_option maxHeartbeats 4000000 in
set_option maxRecDepth 100000 in
theorem lc_doomed {G : KG} {X : KX} {l : Launch} {b L : Nat} {sq : Nat → Int32} {ce sl : Nat} (F : kF false G X l code RL 4 (some .boolean) room_1) (S : LSq X b L sq) (hL : L ≤ 3072) (hcr : ce ≤ 600000 ∧ sl ≤ 7302250) {M N : Mem} (hI : Inv false M) (hX : XX M) (hJ : Inv true N) (hY : YY N) (hm : Tie M N) {i : Int} (hi : 0 ≤ i ∧ i + 6 ≤ L) (K : ∀ M' N' : Mem, Inv false M' → XX M' → Inv true N' → YY N' → Tie M' N' → LJ G X ce sl M' N' 2050 [some (.ref b), some (vR G 0), some (vR G 163), some (vI i)] []) : LJ G X ce sl M N 2011 [some (.ref b), some (vR G 0), some (vR G 163), some (vI i)] [] := by
  refine kw_aload_n 2012 F 1 dL_law_2011 rfl rfl rfl ?_
  refine kw_VCi 2015 F (As := []) (st := []) vd_L_216 (c_X11_doomed G l M 0 hI kd_0) kd_0 rfl rfl rfl ⟨by decide, by decide⟩ rfl rfl (Nat.le_of_ble_eq_true rfl) dL_law_2012 rfl hcr ?_
  intro r1 U2 q3
  obtain ⟨hiU2, hfU2, q3⟩ := q3
  have hxU2 : XX U2 := XX.fr hX hI hfU2 rfl
  refine kw_pop 2016 F dL_law_2015 rfl rfl ?_
  refine kw_aload_n 2017 F 2 dL_law_2016 rfl rfl rfl ?_
  refine kw_VMi 2020 F (As := []) (st := []) vd_L_219 (c_X12_doomed G l N hJ) kd_163 rfl rfl rfl ⟨by decide, by decide⟩ rfl rfl (Nat.le_of_ble_eq_true rfl) dL_law_2017 rfl hcr ?_
  intro r4 U5 q6
  obtain ⟨hiU5, hfU5, q6⟩ := q6
  have hyU5 : YY U5 := YY.fr hY hfU5 rfl
  have ht : Tie U2 U5 := (Tie.m (Tie.c hm hI hfU2 rfl) hJ hfU5 rfl hiU2 (fun i => congrFun (Fr.fn hfU5 kd_164 rfl) i))
  refine kw_pop 2021 F dL_law_2020 rfl rfl ?_
  refine kw_goto 2050 F dL_law_2021 (by decide) ?_
  exact K U2 U5 hiU2 hxU2 hiU5 hyU5 ht
set_option maxHeartbeats 4000000 in
set_option maxRecDepth 100000 in
theorem lc_mark {G : KG} {X : KX} {l : Launch} {b L : Nat} {sq : Nat → Int32} {ce sl : Nat} (F : kF false G X l code RL 4 (some .boolean) room_1) (S : LSq X b L sq) (hL : L ≤ 3072) (hcr : ce ≤ 600000 ∧ sl ≤ 7302250) {M N : Mem} (hI : Inv false M) (hX : XX M) (hJ : Inv true N) (hY : YY N) (hm : Tie M N) {i : Int} (hi : 0 ≤ i ∧ i + 6 ≤ L) (K : ∀ M' N' : Mem, Inv false M' → XX M' → Inv true N' → YY N' → Tie M' N' → LJ G X ce sl M' N' 2050 [some (.ref b), some (vR G 0), some (vR G 163), some (vI i)] []) : LJ G X ce sl M N 2024 [some (.ref b), some (vR G 0), some (vR G 163), some (vI i)] [] := by
  obtain ⟨q, hV, hS, hU, hR, hT⟩ := hm.2.2.2.2.2.2.2.2.1.1
  refine kw_aload_n 2025 F 1 dL_law_2024 rfl rfl rfl ?_
  refine kw_VCi 2028 F (As := []) (st := []) vd_L_220 (e_mark4 G l M 0 hI kd_0 hX q hS hU hm.2.2.2.2.2.2.2.1 hV (by rw [at_K hI]; exact fun m a b => (hm.2.2.2.2.2.2.2.2.1.2.2.2.1 m a b).1)) kd_0 rfl rfl rfl ⟨by decide, by decide⟩ rfl rfl (Nat.le_of_ble_eq_true rfl) dL_law_2025 rfl hcr ?_
  intro r1 U2 q3
  obtain ⟨hiU2, hfU2, q3, hxU2, hcfU2, huU2⟩ := q3
  refine kw_pop 2029 F dL_law_2028 rfl rfl ?_
  refine kw_aload_n 2030 F 2 dL_law_2029 rfl rfl rfl ?_
  refine kw_VMi 2033 F (As := []) (st := []) vd_L_223 (e_mark2m G l N hJ hY) kd_163 rfl rfl rfl ⟨by decide, by decide⟩ rfl rfl (Nat.le_of_ble_eq_true rfl) dL_law_2030 rfl hcr ?_
  intro r4 U5 q6
  obtain ⟨hiU5, hfU5, q6, ⟨hyU5, huU5⟩⟩ := q6
  have hb7 : 0 ≤ M 0 7 ∧ M 0 7 ≤ 3 := Inv.g hI kd_0 rfl 7 rfl rfl
  have e7 := hm.1
  rw [at_K hI] at huU2
  obtain ⟨uA, uB⟩ := huU2
  have hce := hcfU2
  rw [at_K hI] at hce
  have hts : zTS U2 U5 ∧ zTQ U2 U5 ∧ zTW U2 U5 ∧ zTL U2 U5 := by
    by_cases c : M 0 7 ≤ 2
    · obtain ⟨k1, k2, k3⟩ := uA c
      obtain ⟨u1, u2⟩ := huU5.1 (by omega)
      rw [← e7] at u1 u2
      rw [fz_mon hI hm.2.2.2.2.2.2.2.1, (hm.2.2.2.2.2.2.2.1.2.1 _ (kd_kp hI (M 0 7))).2.2] at k3
      exact ⟨zTS.mark hm.2.2.2.2.2.2.2.2.1 hI hm.2.2.2.2.2.2.2.1 ⟨hb7.1, c⟩ (Fr.e hfU2 kd_0 5 rfl) (by omega) (Fr.e hfU2 kd_x5 0 rfl) (Fr.fn hfU2 kd_x9 rfl) hce hV k1 k2 hR hT u1 u2, zTQ.mark hm.2.2.2.2.2.2.2.2.2.2.1 hJ ⟨hb7.1, c⟩ (by omega) u1 u2, zTW.mark hm.2.2.2.2.2.2.2.2.2.2.2.1 hI hiU2 hm.2.2.2.2.2.2.2.1 (FZ.fr hm.2.2.2.2.2.2.2.1 hfU2 rfl) hm.2.2.2.2.2.2.2.2.1.2.2 ⟨hb7.1, c⟩ (Fr.e hfU2 kd_0 5 rfl) (by omega) (Fr.e hfU2 kd_0 12 rfl) (Fr.fn hfU2 kd_x9 rfl) hce k3 u1 u2, zTL.fr hm.2.2.2.2.2.2.2.2.2.2.2.2 hI hfU2 rfl (fun i _ b => u2 i (by omega))⟩
    · have u1 := huU5.2 (by omega)
      exact ⟨zTS.same hm.2.2.2.2.2.2.2.2.1 hI hm.2.2.2.2.2.2.2.1 (Fr.e hfU2 kd_0 5 rfl) (by omega) (Fr.e hfU2 kd_x5 0 rfl) (Fr.fn hfU2 kd_x9 rfl) (uB (by omega)) u1, zTQ.eq hm.2.2.2.2.2.2.2.2.2.2.1 (by omega) u1, zTW.oth hm.2.2.2.2.2.2.2.2.2.2.2.1 hI hiU2 hm.2.2.2.2.2.2.2.1 (FZ.fr hm.2.2.2.2.2.2.2.1 hfU2 rfl) (Fr.e hfU2 kd_0 5 rfl) (by omega) (Fr.e hfU2 kd_0 12 rfl) (Fr.fn hfU2 kd_x9 rfl) (uB (by omega)) (fun s hs y a b c => c) (fun i _ _ => by rw [u1]), zTL.fr hm.2.2.2.2.2.2.2.2.2.2.2.2 hI hfU2 rfl (fun i _ _ => by rw [u1])⟩
  have ht : Tie U2 U5 := ⟨by have := hm.1; omega, (Fr.e hfU2 kd_x5 1 rfl).trans (hm.2.1.trans (Fr.e hfU5 kd_163 10 rfl).symm), (Fr.fn hfU2 kd_x4 rfl).trans (hm.2.2.1.trans (Fr.fn hfU5 kd_y6 rfl).symm), (Fr.fn hfU2 kd_x3 rfl).trans (hm.2.2.2.1.trans (Fr.fn hfU5 kd_y5 rfl).symm), (Fr.fn hfU2 kd_x6 rfl).trans (hm.2.2.2.2.1.trans (Fr.fn hfU5 kd_169 rfl).symm), (Fr.e hfU2 kd_x5 2 rfl).trans (hm.2.2.2.2.2.1.trans (Fr.e hfU5 kd_163 16 rfl).symm), (Fr.e hfU2 kd_x5 3 rfl).trans (hm.2.2.2.2.2.2.1.trans (Fr.e hfU5 kd_163 17 rfl).symm), FZ.fr hm.2.2.2.2.2.2.2.1 hfU2 rfl, hts.1, (Fr.fn hfU2 kd_x2 rfl).trans (hm.2.2.2.2.2.2.2.2.2.1.trans (Fr.fn hfU5 kd_y7 rfl).symm), hts.2.1, hts.2.2.1, hts.2.2.2⟩
  refine kw_pop 2034 F dL_law_2033 rfl rfl ?_
  refine kw_goto 2050 F dL_law_2034 (by decide) ?_
  exact K U2 U5 hiU2 hxU2 hiU5 hyU5 ht
set_option maxHeartbeats 4000000 in
set_option maxRecDepth 100000 in
theorem lc_undo {G : KG} {X : KX} {l : Launch} {b L : Nat} {sq : Nat → Int32} {ce sl : Nat} (F : kF false G X l code RL 4 (some .boolean) room_1) (S : LSq X b L sq) (hL : L ≤ 3072) (hcr : ce ≤ 600000 ∧ sl ≤ 7302250) {M N : Mem} (hI : Inv false M) (hX : XX M) (hJ : Inv true N) (hY : YY N) (hm : Tie M N) {i : Int} (hi : 0 ≤ i ∧ i + 6 ≤ L) (K : ∀ M' N' : Mem, Inv false M' → XX M' → Inv true N' → YY N' → Tie M' N' → LJ G X ce sl M' N' 2050 [some (.ref b), some (vR G 0), some (vR G 163), some (vI i)] []) : LJ G X ce sl M N 2037 [some (.ref b), some (vR G 0), some (vR G 163), some (vI i)] [] := by
  obtain ⟨q, hV, hS, hU, hR, hT⟩ := hm.2.2.2.2.2.2.2.2.1.1
  refine kw_aload_n 2038 F 1 dL_law_2037 rfl rfl rfl ?_
  refine kw_VCi 2041 F (As := []) (st := []) vd_L_224 (e_undo7 G l M 0 hI kd_0 ) kd_0 rfl rfl rfl ⟨by decide, by decide⟩ rfl rfl (Nat.le_of_ble_eq_true rfl) dL_law_2038 rfl hcr ?_
  intro r1 U2 q3
  obtain ⟨hiU2, hfU2, q3, huU2⟩ := q3
  have hxU2 : XX U2 := XX.fr hX hI hfU2 rfl
  refine kw_pop 2042 F dL_law_2041 rfl rfl ?_
  refine kw_aload_n 2043 F 2 dL_law_2042 rfl rfl rfl ?_
  refine kw_VMi 2046 F (As := []) (st := []) vd_L_227 (e_undo2m G l N hJ hY) kd_163 rfl rfl rfl ⟨by decide, by decide⟩ rfl rfl (Nat.le_of_ble_eq_true rfl) dL_law_2043 rfl hcr ?_
  intro r4 U5 q6
  obtain ⟨hiU5, hfU5, q6, ⟨hyU5, huU5⟩⟩ := q6
  obtain ⟨uC1, uC2, uC3⟩ := huU2
  have hb7 : 0 ≤ M 0 7 ∧ M 0 7 ≤ 3 := Inv.g hI kd_0 rfl 7 rfl rfl
  have e7 := hm.1
  rw [at_K hI] at uC1
  have hts : zTS U2 U5 ∧ zTQ U2 U5 ∧ zTW U2 U5 ∧ zTL U2 U5 := by
    by_cases c : 1 ≤ M 0 7
    · obtain ⟨k1, k2⟩ := uC1.1 c
      obtain ⟨u1, u2⟩ := huU5.1 (by omega)
      rw [← e7] at u1
      exact ⟨zTS.undo hm.2.2.2.2.2.2.2.2.1 hI ⟨c, hb7.2⟩ hfU2 rfl rfl k1 (by omega) (Fr.e hfU2 kd_x5 0 rfl) k2 u1 u2, zTQ.undo hm.2.2.2.2.2.2.2.2.2.2.1 hJ ⟨c, hb7.2⟩ (by omega) u1 u2, zTW.undo hm.2.2.2.2.2.2.2.2.2.2.2.1 hI hiU2 hm.2.2.2.2.2.2.2.1 (FZ.fr hm.2.2.2.2.2.2.2.1 hfU2 rfl) ⟨c, hb7.2⟩ hfU2 rfl rfl k1 (by omega) k2 u1 u2, zTL.all hm.2.2.2.2.2.2.2.2.2.2.2.2 hfU2 rfl (uC2 c)⟩
    · obtain ⟨k1, k2⟩ := uC1.2 (by omega)
      have u1 := huU5.2 (by omega)
      exact ⟨zTS.eq hm.2.2.2.2.2.2.2.2.1 hI hfU2 k1 (by omega) (Fr.e hfU2 kd_x5 0 rfl) k2 u1 rfl rfl, zTQ.eq hm.2.2.2.2.2.2.2.2.2.2.1 (by omega) u1, zTW.eq hm.2.2.2.2.2.2.2.2.2.2.2.1 hI hiU2 hm.2.2.2.2.2.2.2.1 (FZ.fr hm.2.2.2.2.2.2.2.1 hfU2 rfl) hfU2 rfl rfl k1 (by omega) k2 u1, zTL.same hm.2.2.2.2.2.2.2.2.2.2.2.2 hfU2 rfl (uC3 (by omega)) (fun i _ _ => by rw [u1])⟩
  have ht : Tie U2 U5 := ⟨by have := hm.1; omega, (Fr.e hfU2 kd_x5 1 rfl).trans (hm.2.1.trans (Fr.e hfU5 kd_163 10 rfl).symm), (Fr.fn hfU2 kd_x4 rfl).trans (hm.2.2.1.trans (Fr.fn hfU5 kd_y6 rfl).symm), (Fr.fn hfU2 kd_x3 rfl).trans (hm.2.2.2.1.trans (Fr.fn hfU5 kd_y5 rfl).symm), (Fr.fn hfU2 kd_x6 rfl).trans (hm.2.2.2.2.1.trans (Fr.fn hfU5 kd_169 rfl).symm), (Fr.e hfU2 kd_x5 2 rfl).trans (hm.2.2.2.2.2.1.trans (Fr.e hfU5 kd_163 16 rfl).symm), (Fr.e hfU2 kd_x5 3 rfl).trans (hm.2.2.2.2.2.2.1.trans (Fr.e hfU5 kd_163 17 rfl).symm), FZ.fr hm.2.2.2.2.2.2.2.1 hfU2 rfl, hts.1, (Fr.fn hfU2 kd_x2 rfl).trans (hm.2.2.2.2.2.2.2.2.2.1.trans (Fr.fn hfU5 kd_y7 rfl).symm), hts.2.1, hts.2.2.1, hts.2.2.2⟩
  refine kw_pop 2047 F dL_law_2046 rfl rfl ?_
  refine kw_goto 2050 F dL_law_2047 (by decide) ?_
  exact K U2 U5 hiU2 hxU2 hiU5 hyU5 ht
