section
variable {p : Program} {l : Launch} {e : Env} {s : State} {m : MethodId} {below : List Frame} {meth : Method} {c : Code} {H : Heap} {locs : List Loc} {Qf : State → Prop} {ls : Array Slot} {cells slots b L : Nat} {xs : Nat → Int32} {D : va_G} {cy : Nat → ClassId} {G : GG} {ad adR : AD} {μ r : MM}
set_option maxRecDepth 100000 in
set_option maxHeartbeats 4000000 in
theorem lc_40 (C : LC p s m c b L xs D cy) {k : Nat} (hi : 6 * k + 6 ≤ L) (hLI : LI s D cy G ad adR μ r H) (hR : RelK (k : Int) G μ r) (hS : va_S (AL s) s.heap H locs) (hl : lv_has ls 4 [(3, .int (iI ((6 * k : Nat) : Int))), (2, .ref (adR 0 0)), (1, .ref (ad 0 0)), (0, .ref b)]) (hc : cells + 3 ≤ 500000 ∧ slots + 113 ≤ 7000000) (next : ∀ (G' : GG) (ad' : AD) (μ' r' : MM) (H' : Heap) (locs' : List Loc), ad' 0 0 = ad 0 0 → LI s D cy G' ad' adR μ' r' H' → RelK ((k : Int) + 1) G' μ' r' → va_S (AL s) s.heap H' locs' → W p l e room_1 s m #[Value.ref b] below meth c H' locs' (cells + 3) (slots + 113) Qf (F0 m 2307 ls [])) : W p l e room_1 s m #[Value.ref b] below meth c H locs cells slots Qf (F0 m 1752 ls []) := by
  have hx := C.1.1
  have hb := C.1.2.1
  have hL0 := C.2.2.2.2
  have hk2 : (k : Int) < 512 := by omega
  refine lv_aload_n hx hb dL_law_1752 rfl (lv_at hl 2 rfl) ?_
  refine l_ld (j := 1) C hS rfl hl (by omega) dL_law_1753 dL_law_1754 dL_law_1755 dL_law_1756 dL_law_1757 ?_
  refine l_ld (j := 2) C hS rfl hl (by omega) dL_law_1758 dL_law_1759 dL_law_1760 dL_law_1761 dL_law_1762 ?_
  refine l_ld (j := 3) C hS rfl hl (by omega) dL_law_1763 dL_law_1764 dL_law_1765 dL_law_1766 dL_law_1767 ?_
  refine l_ld (j := 4) C hS rfl hl (by omega) dL_law_1768 dL_law_1769 dL_law_1770 dL_law_1771 dL_law_1772 ?_
  refine l_ld (j := 5) C hS rfl hl (by omega) dL_law_1773 dL_law_1774 dL_law_1775 dL_law_1776 dL_law_1777 ?_
  refine l_callC (rest := []) C hLI (kX10_misfits (rel_misfits hR hk2 _ (XI_rg _ _) _ (XI_rg _ _) _ (XI_rg _ _) _ (XI_rg _ _) _ (XI_rg _ _))) 5 tw4_145 tw4_143 tw4_144 tw4_142 hdX10_misfits rfl ⟨by decide, by decide⟩ hS rfl hl.1 rfl (Nat.le_of_ble_eq_true rfl) dL_law_1778 ⟨by omega, by omega⟩ (fun v μ H locs hK hLI hS => ?_)
  refine lv_aload_n hx hb dL_law_1781 rfl (lv_at hl 1 rfl) ?_
  refine l_ld (j := 1) C hS rfl hl (by omega) dL_law_1782 dL_law_1783 dL_law_1784 dL_law_1785 dL_law_1786 ?_
  refine l_ld (j := 2) C hS rfl hl (by omega) dL_law_1787 dL_law_1788 dL_law_1789 dL_law_1790 dL_law_1791 ?_
  refine l_ld (j := 3) C hS rfl hl (by omega) dL_law_1792 dL_law_1793 dL_law_1794 dL_law_1795 dL_law_1796 ?_
  refine l_ld (j := 4) C hS rfl hl (by omega) dL_law_1797 dL_law_1798 dL_law_1799 dL_law_1800 dL_law_1801 ?_
  refine l_ld (j := 5) C hS rfl hl (by omega) dL_law_1802 dL_law_1803 dL_law_1804 dL_law_1805 dL_law_1806 ?_
  refine l_callR (rest := [.int (iI v)]) C hLI (kX11_misfits hK) 5 tw7_138 tw7_136 tw7_137 tw7_135 hdX11_misfits rfl ⟨by decide, by decide⟩ hS rfl hl.1 rfl (Nat.le_of_ble_eq_true rfl) dL_law_1807 ⟨by omega, by omega⟩ (fun v' r H locs hK2 hLI hS => ?_)
  obtain ⟨ev, hR2⟩ := hK2 ()
  subst ev
  refine lv_icmp_eq (tgt := 2307) hx hb dL_law_1810 (by decide) (fun _ => ?_) (fun q => absurd rfl q)
  exact W.widen (Nat.le_add_right _ _) (Nat.le_add_right _ _) (next _ _ _ _ _ _ rfl hLI hR2 hS)
set_option maxRecDepth 100000 in
set_option maxHeartbeats 4000000 in
theorem lc_41 (C : LC p s m c b L xs D cy) {k : Nat} (hi : 6 * k + 6 ≤ L) (hLI : LI s D cy G ad adR μ r H) (hR : RelK (k : Int) G μ r) (hS : va_S (AL s) s.heap H locs) (hl : lv_has ls 4 [(3, .int (iI ((6 * k : Nat) : Int))), (2, .ref (adR 0 0)), (1, .ref (ad 0 0)), (0, .ref b)]) (hc : cells + 3 ≤ 500000 ∧ slots + 113 ≤ 7000000) (next : ∀ (G' : GG) (ad' : AD) (μ' r' : MM) (H' : Heap) (locs' : List Loc), ad' 0 0 = ad 0 0 → LI s D cy G' ad' adR μ' r' H' → RelK ((k : Int) + 1) G' μ' r' → va_S (AL s) s.heap H' locs' → W p l e room_1 s m #[Value.ref b] below meth c H' locs' (cells + 3) (slots + 113) Qf (F0 m 2307 ls [])) : W p l e room_1 s m #[Value.ref b] below meth c H locs cells slots Qf (F0 m 1815 ls []) := by
  have hx := C.1.1
  have hb := C.1.2.1
  have hL0 := C.2.2.2.2
  have hk2 : (k : Int) < 512 := by omega
  refine lv_aload_n hx hb dL_law_1815 rfl (lv_at hl 2 rfl) ?_
  refine l_ld (j := 1) C hS rfl hl (by omega) dL_law_1816 dL_law_1817 dL_law_1818 dL_law_1819 dL_law_1820 ?_
  refine l_ld (j := 2) C hS rfl hl (by omega) dL_law_1821 dL_law_1822 dL_law_1823 dL_law_1824 dL_law_1825 ?_
  refine l_callC (rest := []) C hLI (kX10_fault (rel_fault hR hk2 _ (XI_rg _ _) _ (XI_rg _ _))) 2 tw4_167 tw4_165 tw4_166 tw4_164 hdX10_fault rfl ⟨by decide, by decide⟩ hS rfl hl.1 rfl (Nat.le_of_ble_eq_true rfl) dL_law_1826 ⟨by omega, by omega⟩ (fun v μ H locs hK hLI hS => ?_)
  refine lv_aload_n hx hb dL_law_1829 rfl (lv_at hl 1 rfl) ?_
  refine l_ld (j := 1) C hS rfl hl (by omega) dL_law_1830 dL_law_1831 dL_law_1832 dL_law_1833 dL_law_1834 ?_
  refine l_ld (j := 2) C hS rfl hl (by omega) dL_law_1835 dL_law_1836 dL_law_1837 dL_law_1838 dL_law_1839 ?_
  refine l_callR (rest := [.int (iI v)]) C hLI (kX11_fault hK) 2 tw7_146 tw7_144 tw7_145 tw7_143 hdX11_fault rfl ⟨by decide, by decide⟩ hS rfl hl.1 rfl (Nat.le_of_ble_eq_true rfl) dL_law_1840 ⟨by omega, by omega⟩ (fun v' r H locs hK2 hLI hS => ?_)
  obtain ⟨ev, hR2⟩ := hK2 ()
  subst ev
  refine lv_icmp_eq (tgt := 2307) hx hb dL_law_1843 (by decide) (fun _ => ?_) (fun q => absurd rfl q)
  exact W.widen (Nat.le_add_right _ _) (Nat.le_add_right _ _) (next _ _ _ _ _ _ rfl hLI hR2 hS)
set_option maxRecDepth 100000 in
set_option maxHeartbeats 4000000 in
theorem lc_42 (C : LC p s m c b L xs D cy) {k : Nat} (hi : 6 * k + 6 ≤ L) (hLI : LI s D cy G ad adR μ r H) (hR : RelK (k : Int) G μ r) (hS : va_S (AL s) s.heap H locs) (hl : lv_has ls 4 [(3, .int (iI ((6 * k : Nat) : Int))), (2, .ref (adR 0 0)), (1, .ref (ad 0 0)), (0, .ref b)]) (hc : cells + 3 ≤ 500000 ∧ slots + 113 ≤ 7000000) (next : ∀ (G' : GG) (ad' : AD) (μ' r' : MM) (H' : Heap) (locs' : List Loc), ad' 0 0 = ad 0 0 → LI s D cy G' ad' adR μ' r' H' → RelK ((k : Int) + 1) G' μ' r' → va_S (AL s) s.heap H' locs' → W p l e room_1 s m #[Value.ref b] below meth c H' locs' (cells + 3) (slots + 113) Qf (F0 m 2307 ls [])) : W p l e room_1 s m #[Value.ref b] below meth c H locs cells slots Qf (F0 m 1848 ls []) := by
  have hx := C.1.1
  have hb := C.1.2.1
  have hL0 := C.2.2.2.2
  have hk2 : (k : Int) < 512 := by omega
  refine lv_aload_n hx hb dL_law_1848 rfl (lv_at hl 2 rfl) ?_
  refine l_ld (j := 1) C hS rfl hl (by omega) dL_law_1849 dL_law_1850 dL_law_1851 dL_law_1852 dL_law_1853 ?_
  refine l_bz C (XI_rg _ _) dL_law_1854 dL_law_1857 dL_law_1858 dL_law_1861 (by decide) (by decide) ?_
  refine l_callC (rest := []) C hLI (kX10_faultTold (rel_faultTold hR hk2 _ (bz01 _))) 1 tw4_201 tw4_199 tw4_200 tw4_198 hdX10_faultTold rfl ⟨by decide, by decide⟩ hS rfl hl.1 rfl (Nat.le_of_ble_eq_true rfl) dL_law_1862 ⟨by omega, by omega⟩ (fun v μ H locs hK hLI hS => ?_)
  refine lv_aload_n hx hb dL_law_1865 rfl (lv_at hl 1 rfl) ?_
  refine l_ld (j := 1) C hS rfl hl (by omega) dL_law_1866 dL_law_1867 dL_law_1868 dL_law_1869 dL_law_1870 ?_
  refine l_bz C (XI_rg _ _) dL_law_1871 dL_law_1874 dL_law_1875 dL_law_1878 (by decide) (by decide) ?_
  refine l_callR (rest := [.int (iI v)]) C hLI (kX11_faultTold hK) 1 tw7_158 tw7_156 tw7_157 tw7_155 hdX11_faultTold rfl ⟨by decide, by decide⟩ hS rfl hl.1 rfl (Nat.le_of_ble_eq_true rfl) dL_law_1879 ⟨by omega, by omega⟩ (fun v' r H locs hK2 hLI hS => ?_)
  obtain ⟨ev, hR2⟩ := hK2 ()
  subst ev
  refine lv_icmp_eq (tgt := 2307) hx hb dL_law_1882 (by decide) (fun _ => ?_) (fun q => absurd rfl q)
  exact W.widen (Nat.le_add_right _ _) (Nat.le_add_right _ _) (next _ _ _ _ _ _ rfl hLI hR2 hS)
set_option maxRecDepth 100000 in
set_option maxHeartbeats 4000000 in
theorem lc_43 (C : LC p s m c b L xs D cy) {k : Nat} (hi : 6 * k + 6 ≤ L) (hLI : LI s D cy G ad adR μ r H) (hR : RelK (k : Int) G μ r) (hS : va_S (AL s) s.heap H locs) (hl : lv_has ls 4 [(3, .int (iI ((6 * k : Nat) : Int))), (2, .ref (adR 0 0)), (1, .ref (ad 0 0)), (0, .ref b)]) (hc : cells + 3 ≤ 500000 ∧ slots + 113 ≤ 7000000) (next : ∀ (G' : GG) (ad' : AD) (μ' r' : MM) (H' : Heap) (locs' : List Loc), ad' 0 0 = ad 0 0 → LI s D cy G' ad' adR μ' r' H' → RelK ((k : Int) + 1) G' μ' r' → va_S (AL s) s.heap H' locs' → W p l e room_1 s m #[Value.ref b] below meth c H' locs' (cells + 3) (slots + 113) Qf (F0 m 2307 ls [])) : W p l e room_1 s m #[Value.ref b] below meth c H locs cells slots Qf (F0 m 1887 ls []) := by
  have hx := C.1.1
  have hb := C.1.2.1
  have hL0 := C.2.2.2.2
  have hk2 : (k : Int) < 512 := by omega
  refine lv_aload_n hx hb dL_law_1887 rfl (lv_at hl 2 rfl) ?_
  refine l_ld (j := 1) C hS rfl hl (by omega) dL_law_1888 dL_law_1889 dL_law_1890 dL_law_1891 dL_law_1892 ?_
  refine l_ld (j := 2) C hS rfl hl (by omega) dL_law_1893 dL_law_1894 dL_law_1895 dL_law_1896 dL_law_1897 ?_
  refine l_callC (rest := []) C hLI (kX10_explained (rel_explained hR hk2 _ (XI_rg _ _) _ (XI_rg _ _))) 2 tw4_205 tw4_203 tw4_204 tw4_202 hdX10_explained rfl ⟨by decide, by decide⟩ hS rfl hl.1 rfl (Nat.le_of_ble_eq_true rfl) dL_law_1898 ⟨by omega, by omega⟩ (fun v μ H locs hK hLI hS => ?_)
  refine lv_aload_n hx hb dL_law_1901 rfl (lv_at hl 1 rfl) ?_
  refine l_ld (j := 1) C hS rfl hl (by omega) dL_law_1902 dL_law_1903 dL_law_1904 dL_law_1905 dL_law_1906 ?_
  refine l_ld (j := 2) C hS rfl hl (by omega) dL_law_1907 dL_law_1908 dL_law_1909 dL_law_1910 dL_law_1911 ?_
  refine l_callR (rest := [.int (iI v)]) C hLI (kX11_explained hK) 2 tw7_162 tw7_160 tw7_161 tw7_159 hdX11_explained rfl ⟨by decide, by decide⟩ hS rfl hl.1 rfl (Nat.le_of_ble_eq_true rfl) dL_law_1912 ⟨by omega, by omega⟩ (fun v' r H locs hK2 hLI hS => ?_)
  obtain ⟨ev, hR2⟩ := hK2 ()
  subst ev
  refine lv_icmp_eq (tgt := 2307) hx hb dL_law_1915 (by decide) (fun _ => ?_) (fun q => absurd rfl q)
  exact W.widen (Nat.le_add_right _ _) (Nat.le_add_right _ _) (next _ _ _ _ _ _ rfl hLI hR2 hS)
set_option maxRecDepth 100000 in
set_option maxHeartbeats 4000000 in
theorem lc_44 (C : LC p s m c b L xs D cy) {k : Nat} (hi : 6 * k + 6 ≤ L) (hLI : LI s D cy G ad adR μ r H) (hR : RelK (k : Int) G μ r) (hS : va_S (AL s) s.heap H locs) (hl : lv_has ls 4 [(3, .int (iI ((6 * k : Nat) : Int))), (2, .ref (adR 0 0)), (1, .ref (ad 0 0)), (0, .ref b)]) (hc : cells + 3 ≤ 500000 ∧ slots + 113 ≤ 7000000) (next : ∀ (G' : GG) (ad' : AD) (μ' r' : MM) (H' : Heap) (locs' : List Loc), ad' 0 0 = ad 0 0 → LI s D cy G' ad' adR μ' r' H' → RelK ((k : Int) + 1) G' μ' r' → va_S (AL s) s.heap H' locs' → W p l e room_1 s m #[Value.ref b] below meth c H' locs' (cells + 3) (slots + 113) Qf (F0 m 2307 ls [])) : W p l e room_1 s m #[Value.ref b] below meth c H locs cells slots Qf (F0 m 1920 ls []) := by
  have hx := C.1.1
  have hb := C.1.2.1
  have hL0 := C.2.2.2.2
  have hk2 : (k : Int) < 512 := by omega
  refine lv_aload_n hx hb dL_law_1920 rfl (lv_at hl 2 rfl) ?_
  refine l_ld (j := 1) C hS rfl hl (by omega) dL_law_1921 dL_law_1922 dL_law_1923 dL_law_1924 dL_law_1925 ?_
  refine l_ld (j := 2) C hS rfl hl (by omega) dL_law_1926 dL_law_1927 dL_law_1928 dL_law_1929 dL_law_1930 ?_
  refine l_ld (j := 3) C hS rfl hl (by omega) dL_law_1931 dL_law_1932 dL_law_1933 dL_law_1934 dL_law_1935 ?_
  refine l_ld (j := 4) C hS rfl hl (by omega) dL_law_1936 dL_law_1937 dL_law_1938 dL_law_1939 dL_law_1940 ?_
  refine l_ld (j := 5) C hS rfl hl (by omega) dL_law_1941 dL_law_1942 dL_law_1943 dL_law_1944 dL_law_1945 ?_
  refine l_callC (rest := []) C hLI (kX10_windy (rel_windy hR hk2 _ (XI_rg _ _) _ (XI_rg _ _) _ (XI_rg _ _) _ (XI_rg _ _) _ (XI_rg _ _))) 5 tw4_209 tw4_207 tw4_208 tw4_206 hdX10_windy rfl ⟨by decide, by decide⟩ hS rfl hl.1 rfl (Nat.le_of_ble_eq_true rfl) dL_law_1946 ⟨by omega, by omega⟩ (fun v μ H locs hK hLI hS => ?_)
  refine lv_aload_n hx hb dL_law_1949 rfl (lv_at hl 1 rfl) ?_
  refine l_ld (j := 1) C hS rfl hl (by omega) dL_law_1950 dL_law_1951 dL_law_1952 dL_law_1953 dL_law_1954 ?_
  refine l_ld (j := 2) C hS rfl hl (by omega) dL_law_1955 dL_law_1956 dL_law_1957 dL_law_1958 dL_law_1959 ?_
  refine l_ld (j := 3) C hS rfl hl (by omega) dL_law_1960 dL_law_1961 dL_law_1962 dL_law_1963 dL_law_1964 ?_
  refine l_ld (j := 4) C hS rfl hl (by omega) dL_law_1965 dL_law_1966 dL_law_1967 dL_law_1968 dL_law_1969 ?_
  refine l_ld (j := 5) C hS rfl hl (by omega) dL_law_1970 dL_law_1971 dL_law_1972 dL_law_1973 dL_law_1974 ?_
  refine l_callR (rest := [.int (iI v)]) C hLI (kX11_windy hK) 5 tw7_166 tw7_164 tw7_165 tw7_163 hdX11_windy rfl ⟨by decide, by decide⟩ hS rfl hl.1 rfl (Nat.le_of_ble_eq_true rfl) dL_law_1975 ⟨by omega, by omega⟩ (fun v' r H locs hK2 hLI hS => ?_)
  obtain ⟨ev, hR2⟩ := hK2 ()
  subst ev
  refine lv_icmp_eq (tgt := 2307) hx hb dL_law_1978 (by decide) (fun _ => ?_) (fun q => absurd rfl q)
  exact W.widen (Nat.le_add_right _ _) (Nat.le_add_right _ _) (next _ _ _ _ _ _ rfl hLI hR2 hS)
set_option maxRecDepth 100000 in
set_option maxHeartbeats 4000000 in
theorem lc_45 (C : LC p s m c b L xs D cy) {k : Nat} (hi : 6 * k + 6 ≤ L) (hLI : LI s D cy G ad adR μ r H) (hR : RelK (k : Int) G μ r) (hS : va_S (AL s) s.heap H locs) (hl : lv_has ls 4 [(3, .int (iI ((6 * k : Nat) : Int))), (2, .ref (adR 0 0)), (1, .ref (ad 0 0)), (0, .ref b)]) (hc : cells + 3 ≤ 500000 ∧ slots + 113 ≤ 7000000) (next : ∀ (G' : GG) (ad' : AD) (μ' r' : MM) (H' : Heap) (locs' : List Loc), ad' 0 0 = ad 0 0 → LI s D cy G' ad' adR μ' r' H' → RelK ((k : Int) + 1) G' μ' r' → va_S (AL s) s.heap H' locs' → W p l e room_1 s m #[Value.ref b] below meth c H' locs' (cells + 3) (slots + 113) Qf (F0 m 2307 ls [])) : W p l e room_1 s m #[Value.ref b] below meth c H locs cells slots Qf (F0 m 1983 ls []) := by
  have hx := C.1.1
  have hb := C.1.2.1
  have hL0 := C.2.2.2.2
  have hk2 : (k : Int) < 512 := by omega
  refine lv_aload_n hx hb dL_law_1983 rfl (lv_at hl 2 rfl) ?_
  refine l_ld (j := 1) C hS rfl hl (by omega) dL_law_1984 dL_law_1985 dL_law_1986 dL_law_1987 dL_law_1988 ?_
  refine l_callC (rest := []) C hLI (kX10_wheel (rel_wheel hR hk2 _ (XI_rg _ _))) 1 tw4_217 tw4_215 tw4_216 tw4_214 hdX10_wheel rfl ⟨by decide, by decide⟩ hS rfl hl.1 rfl (Nat.le_of_ble_eq_true rfl) dL_law_1989 ⟨by omega, by omega⟩ (fun v μ H locs hK hLI hS => ?_)
  refine lv_aload_n hx hb dL_law_1992 rfl (lv_at hl 1 rfl) ?_
  refine l_ld (j := 1) C hS rfl hl (by omega) dL_law_1993 dL_law_1994 dL_law_1995 dL_law_1996 dL_law_1997 ?_
  refine l_callR (rest := [.int (iI v)]) C hLI (kX11_wheel hK) 1 tw7_170 tw7_168 tw7_169 tw7_167 hdX11_wheel rfl ⟨by decide, by decide⟩ hS rfl hl.1 rfl (Nat.le_of_ble_eq_true rfl) dL_law_1998 ⟨by omega, by omega⟩ (fun v' r H locs hK2 hLI hS => ?_)
  obtain ⟨ev, hR2⟩ := hK2 ()
  subst ev
  refine lv_icmp_eq (tgt := 2307) hx hb dL_law_2001 (by decide) (fun _ => ?_) (fun q => absurd rfl q)
  exact W.widen (Nat.le_add_right _ _) (Nat.le_add_right _ _) (next _ _ _ _ _ _ rfl hLI hR2 hS)
set_option maxRecDepth 100000 in
set_option maxHeartbeats 4000000 in
theorem lc_46 (C : LC p s m c b L xs D cy) {k : Nat} (hi : 6 * k + 6 ≤ L) (hLI : LI s D cy G ad adR μ r H) (hR : RelK (k : Int) G μ r) (hS : va_S (AL s) s.heap H locs) (hl : lv_has ls 4 [(3, .int (iI ((6 * k : Nat) : Int))), (2, .ref (adR 0 0)), (1, .ref (ad 0 0)), (0, .ref b)]) (hc : cells + 3 ≤ 500000 ∧ slots + 113 ≤ 7000000) (next : ∀ (G' : GG) (ad' : AD) (μ' r' : MM) (H' : Heap) (locs' : List Loc), ad' 0 0 = ad 0 0 → LI s D cy G' ad' adR μ' r' H' → RelK ((k : Int) + 1) G' μ' r' → va_S (AL s) s.heap H' locs' → W p l e room_1 s m #[Value.ref b] below meth c H' locs' (cells + 3) (slots + 113) Qf (F0 m 2307 ls [])) : W p l e room_1 s m #[Value.ref b] below meth c H locs cells slots Qf (F0 m 2006 ls []) := by
  have hx := C.1.1
  have hb := C.1.2.1
  have hL0 := C.2.2.2.2
  have hk2 : (k : Int) < 512 := by omega
  refine lv_aload_n hx hb dL_law_2006 rfl (lv_at hl 2 rfl) ?_
  refine l_ld (j := 1) C hS rfl hl (by omega) dL_law_2007 dL_law_2008 dL_law_2009 dL_law_2010 dL_law_2011 ?_
  refine l_ld (j := 2) C hS rfl hl (by omega) dL_law_2012 dL_law_2013 dL_law_2014 dL_law_2015 dL_law_2016 ?_
  refine l_ld (j := 3) C hS rfl hl (by omega) dL_law_2017 dL_law_2018 dL_law_2019 dL_law_2020 dL_law_2021 ?_
  refine l_callC (rest := []) C hLI (kX10_nearest (rel_nearest hR hk2 _ (XI_rg _ _) _ (XI_rg _ _) _ (XI_rg _ _))) 3 tw4_225 tw4_223 tw4_224 tw4_222 hdX10_nearest rfl ⟨by decide, by decide⟩ hS rfl hl.1 rfl (Nat.le_of_ble_eq_true rfl) dL_law_2022 ⟨by omega, by omega⟩ (fun v μ H locs hK hLI hS => ?_)
  refine lv_aload_n hx hb dL_law_2025 rfl (lv_at hl 1 rfl) ?_
  refine l_ld (j := 1) C hS rfl hl (by omega) dL_law_2026 dL_law_2027 dL_law_2028 dL_law_2029 dL_law_2030 ?_
  refine l_ld (j := 2) C hS rfl hl (by omega) dL_law_2031 dL_law_2032 dL_law_2033 dL_law_2034 dL_law_2035 ?_
  refine l_ld (j := 3) C hS rfl hl (by omega) dL_law_2036 dL_law_2037 dL_law_2038 dL_law_2039 dL_law_2040 ?_
  refine l_callR (rest := [.int (iI v)]) C hLI (kX11_nearest hK) 3 tw7_174 tw7_172 tw7_173 tw7_171 hdX11_nearest rfl ⟨by decide, by decide⟩ hS rfl hl.1 rfl (Nat.le_of_ble_eq_true rfl) dL_law_2041 ⟨by omega, by omega⟩ (fun v' r H locs hK2 hLI hS => ?_)
  obtain ⟨ev, hR2⟩ := hK2 ()
  subst ev
  refine lv_icmp_eq (tgt := 2307) hx hb dL_law_2044 (by decide) (fun _ => ?_) (fun q => absurd rfl q)
  exact W.widen (Nat.le_add_right _ _) (Nat.le_add_right _ _) (next _ _ _ _ _ _ rfl hLI hR2 hS)
set_option maxRecDepth 100000 in
set_option maxHeartbeats 4000000 in
theorem lc_47 (C : LC p s m c b L xs D cy) {k : Nat} (hi : 6 * k + 6 ≤ L) (hLI : LI s D cy G ad adR μ r H) (hR : RelK (k : Int) G μ r) (hS : va_S (AL s) s.heap H locs) (hl : lv_has ls 4 [(3, .int (iI ((6 * k : Nat) : Int))), (2, .ref (adR 0 0)), (1, .ref (ad 0 0)), (0, .ref b)]) (hc : cells + 3 ≤ 500000 ∧ slots + 113 ≤ 7000000) (next : ∀ (G' : GG) (ad' : AD) (μ' r' : MM) (H' : Heap) (locs' : List Loc), ad' 0 0 = ad 0 0 → LI s D cy G' ad' adR μ' r' H' → RelK ((k : Int) + 1) G' μ' r' → va_S (AL s) s.heap H' locs' → W p l e room_1 s m #[Value.ref b] below meth c H' locs' (cells + 3) (slots + 113) Qf (F0 m 2307 ls [])) : W p l e room_1 s m #[Value.ref b] below meth c H locs cells slots Qf (F0 m 2049 ls []) := by
  have hx := C.1.1
  have hb := C.1.2.1
  have hL0 := C.2.2.2.2
  have hk2 : (k : Int) < 512 := by omega
  refine lv_aload_n hx hb dL_law_2049 rfl (lv_at hl 2 rfl) ?_
  refine l_ld (j := 1) C hS rfl hl (by omega) dL_law_2050 dL_law_2051 dL_law_2052 dL_law_2053 dL_law_2054 ?_
  refine l_callC (rest := []) C hLI (kX10_chosen (rel_chosen hR hk2 _ (XI_rg _ _))) 1 tw5_12 tw5_10 tw5_11 tw5_9 hdX10_chosen rfl ⟨by decide, by decide⟩ hS rfl hl.1 rfl (Nat.le_of_ble_eq_true rfl) dL_law_2055 ⟨by omega, by omega⟩ (fun v μ H locs hK hLI hS => ?_)
  refine lv_aload_n hx hb dL_law_2058 rfl (lv_at hl 1 rfl) ?_
  refine l_ld (j := 1) C hS rfl hl (by omega) dL_law_2059 dL_law_2060 dL_law_2061 dL_law_2062 dL_law_2063 ?_
  refine l_callR (rest := [.int (iI v)]) C hLI (kX11_chosen hK) 1 tw7_189 tw7_187 tw7_188 tw7_186 hdX11_chosen rfl ⟨by decide, by decide⟩ hS rfl hl.1 rfl (Nat.le_of_ble_eq_true rfl) dL_law_2064 ⟨by omega, by omega⟩ (fun v' r H locs hK2 hLI hS => ?_)
  obtain ⟨ev, hR2⟩ := hK2 ()
  subst ev
  refine lv_icmp_eq (tgt := 2307) hx hb dL_law_2067 (by decide) (fun _ => ?_) (fun q => absurd rfl q)
  exact W.widen (Nat.le_add_right _ _) (Nat.le_add_right _ _) (next _ _ _ _ _ _ rfl hLI hR2 hS)
set_option maxRecDepth 100000 in
set_option maxHeartbeats 4000000 in
theorem lc_48 (C : LC p s m c b L xs D cy) {k : Nat} (hi : 6 * k + 6 ≤ L) (hLI : LI s D cy G ad adR μ r H) (hR : RelK (k : Int) G μ r) (hS : va_S (AL s) s.heap H locs) (hl : lv_has ls 4 [(3, .int (iI ((6 * k : Nat) : Int))), (2, .ref (adR 0 0)), (1, .ref (ad 0 0)), (0, .ref b)]) (hc : cells + 3 ≤ 500000 ∧ slots + 113 ≤ 7000000) (next : ∀ (G' : GG) (ad' : AD) (μ' r' : MM) (H' : Heap) (locs' : List Loc), ad' 0 0 = ad 0 0 → LI s D cy G' ad' adR μ' r' H' → RelK ((k : Int) + 1) G' μ' r' → va_S (AL s) s.heap H' locs' → W p l e room_1 s m #[Value.ref b] below meth c H' locs' (cells + 3) (slots + 113) Qf (F0 m 2307 ls [])) : W p l e room_1 s m #[Value.ref b] below meth c H locs cells slots Qf (F0 m 2072 ls []) := by
  have hx := C.1.1
  have hb := C.1.2.1
  have hL0 := C.2.2.2.2
  have hk2 : (k : Int) < 512 := by omega
  refine lv_aload_n hx hb dL_law_2072 rfl (lv_at hl 2 rfl) ?_
  refine l_ld (j := 1) C hS rfl hl (by omega) dL_law_2073 dL_law_2074 dL_law_2075 dL_law_2076 dL_law_2077 ?_
  refine l_ld (j := 2) C hS rfl hl (by omega) dL_law_2078 dL_law_2079 dL_law_2080 dL_law_2081 dL_law_2082 ?_
  refine l_bz C (XI_rg _ _) dL_law_2083 dL_law_2086 dL_law_2087 dL_law_2090 (by decide) (by decide) ?_
  refine l_callC (rest := []) C hLI (kX10_daily (rel_daily hR hk2 _ (XI_rg _ _) _ (bz01 _))) 2 tw5_20 tw5_18 tw5_19 tw5_17 hdX10_daily rfl ⟨by decide, by decide⟩ hS rfl hl.1 rfl (Nat.le_of_ble_eq_true rfl) dL_law_2091 ⟨by omega, by omega⟩ (fun v μ H locs hK hLI hS => ?_)
  refine lv_aload_n hx hb dL_law_2094 rfl (lv_at hl 1 rfl) ?_
  refine l_ld (j := 1) C hS rfl hl (by omega) dL_law_2095 dL_law_2096 dL_law_2097 dL_law_2098 dL_law_2099 ?_
  refine l_ld (j := 2) C hS rfl hl (by omega) dL_law_2100 dL_law_2101 dL_law_2102 dL_law_2103 dL_law_2104 ?_
  refine l_bz C (XI_rg _ _) dL_law_2105 dL_law_2108 dL_law_2109 dL_law_2112 (by decide) (by decide) ?_
  refine l_callR (rest := [.int (iI v)]) C hLI (kX11_daily hK) 2 tw7_193 tw7_191 tw7_192 tw7_190 hdX11_daily rfl ⟨by decide, by decide⟩ hS rfl hl.1 rfl (Nat.le_of_ble_eq_true rfl) dL_law_2113 ⟨by omega, by omega⟩ (fun v' r H locs hK2 hLI hS => ?_)
  obtain ⟨ev, hR2⟩ := hK2 ()
  subst ev
  refine lv_icmp_eq (tgt := 2307) hx hb dL_law_2116 (by decide) (fun _ => ?_) (fun q => absurd rfl q)
  exact W.widen (Nat.le_add_right _ _) (Nat.le_add_right _ _) (next _ _ _ _ _ _ rfl hLI hR2 hS)
set_option maxRecDepth 100000 in
set_option maxHeartbeats 4000000 in
theorem lc_49 (C : LC p s m c b L xs D cy) {k : Nat} (hi : 6 * k + 6 ≤ L) (hLI : LI s D cy G ad adR μ r H) (hR : RelK (k : Int) G μ r) (hS : va_S (AL s) s.heap H locs) (hl : lv_has ls 4 [(3, .int (iI ((6 * k : Nat) : Int))), (2, .ref (adR 0 0)), (1, .ref (ad 0 0)), (0, .ref b)]) (hc : cells + 3 ≤ 500000 ∧ slots + 113 ≤ 7000000) (next : ∀ (G' : GG) (ad' : AD) (μ' r' : MM) (H' : Heap) (locs' : List Loc), ad' 0 0 = ad 0 0 → LI s D cy G' ad' adR μ' r' H' → RelK ((k : Int) + 1) G' μ' r' → va_S (AL s) s.heap H' locs' → W p l e room_1 s m #[Value.ref b] below meth c H' locs' (cells + 3) (slots + 113) Qf (F0 m 2307 ls [])) : W p l e room_1 s m #[Value.ref b] below meth c H locs cells slots Qf (F0 m 2121 ls []) := by
  have hx := C.1.1
  have hb := C.1.2.1
  have hL0 := C.2.2.2.2
  have hk2 : (k : Int) < 512 := by omega
  refine lv_aload_n hx hb dL_law_2121 rfl (lv_at hl 2 rfl) ?_
  refine l_ld (j := 1) C hS rfl hl (by omega) dL_law_2122 dL_law_2123 dL_law_2124 dL_law_2125 dL_law_2126 ?_
  refine l_callC (rest := []) C hLI (kX10_lasting (rel_lasting hR hk2 _ (XI_rg _ _))) 1 tw5_44 tw5_42 tw5_43 tw5_41 hdX10_lasting rfl ⟨by decide, by decide⟩ hS rfl hl.1 rfl (Nat.le_of_ble_eq_true rfl) dL_law_2127 ⟨by omega, by omega⟩ (fun v μ H locs hK hLI hS => ?_)
  refine lv_aload_n hx hb dL_law_2130 rfl (lv_at hl 1 rfl) ?_
  refine l_ld (j := 1) C hS rfl hl (by omega) dL_law_2131 dL_law_2132 dL_law_2133 dL_law_2134 dL_law_2135 ?_
  refine l_callR (rest := [.int (iI v)]) C hLI (kX11_lasting hK) 1 tw7_201 tw7_199 tw7_200 tw7_198 hdX11_lasting rfl ⟨by decide, by decide⟩ hS rfl hl.1 rfl (Nat.le_of_ble_eq_true rfl) dL_law_2136 ⟨by omega, by omega⟩ (fun v' r H locs hK2 hLI hS => ?_)
  obtain ⟨ev, hR2⟩ := hK2 ()
  subst ev
  refine lv_icmp_eq (tgt := 2307) hx hb dL_law_2139 (by decide) (fun _ => ?_) (fun q => absurd rfl q)
  exact W.widen (Nat.le_add_right _ _) (Nat.le_add_right _ _) (next _ _ _ _ _ _ rfl hLI hR2 hS)
set_option maxRecDepth 100000 in
set_option maxHeartbeats 4000000 in
theorem lc_50 (C : LC p s m c b L xs D cy) {k : Nat} (hi : 6 * k + 6 ≤ L) (hLI : LI s D cy G ad adR μ r H) (hR : RelK (k : Int) G μ r) (hS : va_S (AL s) s.heap H locs) (hl : lv_has ls 4 [(3, .int (iI ((6 * k : Nat) : Int))), (2, .ref (adR 0 0)), (1, .ref (ad 0 0)), (0, .ref b)]) (hc : cells + 3 ≤ 500000 ∧ slots + 113 ≤ 7000000) (next : ∀ (G' : GG) (ad' : AD) (μ' r' : MM) (H' : Heap) (locs' : List Loc), ad' 0 0 = ad 0 0 → LI s D cy G' ad' adR μ' r' H' → RelK ((k : Int) + 1) G' μ' r' → va_S (AL s) s.heap H' locs' → W p l e room_1 s m #[Value.ref b] below meth c H' locs' (cells + 3) (slots + 113) Qf (F0 m 2307 ls [])) : W p l e room_1 s m #[Value.ref b] below meth c H locs cells slots Qf (F0 m 2144 ls []) := by
  have hx := C.1.1
  have hb := C.1.2.1
  have hL0 := C.2.2.2.2
  have hk2 : (k : Int) < 512 := by omega
  refine lv_aload_n hx hb dL_law_2144 rfl (lv_at hl 2 rfl) ?_
  refine l_ld (j := 1) C hS rfl hl (by omega) dL_law_2145 dL_law_2146 dL_law_2147 dL_law_2148 dL_law_2149 ?_
  refine l_ld (j := 2) C hS rfl hl (by omega) dL_law_2150 dL_law_2151 dL_law_2152 dL_law_2153 dL_law_2154 ?_
  refine l_bz C (XI_rg _ _) dL_law_2155 dL_law_2158 dL_law_2159 dL_law_2162 (by decide) (by decide) ?_
  refine l_callC (rest := []) C hLI (kX10_lastingDays (rel_lastingDays hR hk2 _ (XI_rg _ _) _ (bz01 _))) 2 tw5_60 tw5_58 tw5_59 tw5_57 hdX10_lastingDays rfl ⟨by decide, by decide⟩ hS rfl hl.1 rfl (Nat.le_of_ble_eq_true rfl) dL_law_2163 ⟨by omega, by omega⟩ (fun v μ H locs hK hLI hS => ?_)
  refine lv_aload_n hx hb dL_law_2166 rfl (lv_at hl 1 rfl) ?_
  refine l_ld (j := 1) C hS rfl hl (by omega) dL_law_2167 dL_law_2168 dL_law_2169 dL_law_2170 dL_law_2171 ?_
  refine l_ld (j := 2) C hS rfl hl (by omega) dL_law_2172 dL_law_2173 dL_law_2174 dL_law_2175 dL_law_2176 ?_
  refine l_bz C (XI_rg _ _) dL_law_2177 dL_law_2180 dL_law_2181 dL_law_2184 (by decide) (by decide) ?_
  refine l_callR (rest := [.int (iI v)]) C hLI (kX11_lastingDays hK) 2 tw7_207 tw7_205 tw7_206 tw7_204 hdX11_lastingDays rfl ⟨by decide, by decide⟩ hS rfl hl.1 rfl (Nat.le_of_ble_eq_true rfl) dL_law_2185 ⟨by omega, by omega⟩ (fun v' r H locs hK2 hLI hS => ?_)
  obtain ⟨ev, hR2⟩ := hK2 ()
  subst ev
  refine lv_icmp_eq (tgt := 2307) hx hb dL_law_2188 (by decide) (fun _ => ?_) (fun q => absurd rfl q)
  exact W.widen (Nat.le_add_right _ _) (Nat.le_add_right _ _) (next _ _ _ _ _ _ rfl hLI hR2 hS)
set_option maxRecDepth 100000 in
set_option maxHeartbeats 4000000 in
theorem lc_51 (C : LC p s m c b L xs D cy) {k : Nat} (hi : 6 * k + 6 ≤ L) (hLI : LI s D cy G ad adR μ r H) (hR : RelK (k : Int) G μ r) (hS : va_S (AL s) s.heap H locs) (hl : lv_has ls 4 [(3, .int (iI ((6 * k : Nat) : Int))), (2, .ref (adR 0 0)), (1, .ref (ad 0 0)), (0, .ref b)]) (hc : cells + 3 ≤ 500000 ∧ slots + 113 ≤ 7000000) (next : ∀ (G' : GG) (ad' : AD) (μ' r' : MM) (H' : Heap) (locs' : List Loc), ad' 0 0 = ad 0 0 → LI s D cy G' ad' adR μ' r' H' → RelK ((k : Int) + 1) G' μ' r' → va_S (AL s) s.heap H' locs' → W p l e room_1 s m #[Value.ref b] below meth c H' locs' (cells + 3) (slots + 113) Qf (F0 m 2307 ls [])) : W p l e room_1 s m #[Value.ref b] below meth c H locs cells slots Qf (F0 m 2193 ls []) := by
  have hx := C.1.1
  have hb := C.1.2.1
  have hL0 := C.2.2.2.2
  have hk2 : (k : Int) < 512 := by omega
  refine lv_aload_n hx hb dL_law_2193 rfl (lv_at hl 2 rfl) ?_
  refine l_callC (rest := []) C hLI (kX10_asked (rel_asked hR hk2)) 0 tw5_73 tw5_71 tw5_72 tw5_70 hdX10_asked rfl ⟨by decide, by decide⟩ hS rfl hl.1 rfl (Nat.le_of_ble_eq_true rfl) dL_law_2194 ⟨by omega, by omega⟩ (fun v μ H locs hK hLI hS => ?_)
  refine lv_aload_n hx hb dL_law_2197 rfl (lv_at hl 1 rfl) ?_
  refine l_callR (rest := [.int (iI v)]) C hLI (kX11_asked hK) 0 tw7_211 tw7_209 tw7_210 tw7_208 hdX11_asked rfl ⟨by decide, by decide⟩ hS rfl hl.1 rfl (Nat.le_of_ble_eq_true rfl) dL_law_2198 ⟨by omega, by omega⟩ (fun v' r H locs hK2 hLI hS => ?_)
  obtain ⟨ev, hR2⟩ := hK2 ()
  subst ev
  refine lv_icmp_eq (tgt := 2307) hx hb dL_law_2201 (by decide) (fun _ => ?_) (fun q => absurd rfl q)
  exact W.widen (Nat.le_add_right _ _) (Nat.le_add_right _ _) (next _ _ _ _ _ _ rfl hLI hR2 hS)
set_option maxRecDepth 100000 in
set_option maxHeartbeats 4000000 in
theorem lc_52 (C : LC p s m c b L xs D cy) {k : Nat} (hi : 6 * k + 6 ≤ L) (hLI : LI s D cy G ad adR μ r H) (hR : RelK (k : Int) G μ r) (hS : va_S (AL s) s.heap H locs) (hl : lv_has ls 4 [(3, .int (iI ((6 * k : Nat) : Int))), (2, .ref (adR 0 0)), (1, .ref (ad 0 0)), (0, .ref b)]) (hc : cells + 3 ≤ 500000 ∧ slots + 113 ≤ 7000000) (next : ∀ (G' : GG) (ad' : AD) (μ' r' : MM) (H' : Heap) (locs' : List Loc), ad' 0 0 = ad 0 0 → LI s D cy G' ad' adR μ' r' H' → RelK ((k : Int) + 1) G' μ' r' → va_S (AL s) s.heap H' locs' → W p l e room_1 s m #[Value.ref b] below meth c H' locs' (cells + 3) (slots + 113) Qf (F0 m 2307 ls [])) : W p l e room_1 s m #[Value.ref b] below meth c H locs cells slots Qf (F0 m 2206 ls []) := by
  have hx := C.1.1
  have hb := C.1.2.1
  have hL0 := C.2.2.2.2
  have hk2 : (k : Int) < 512 := by omega
  refine lv_aload_n hx hb dL_law_2206 rfl (lv_at hl 2 rfl) ?_
  refine l_callC (rest := []) C hLI (kX10_upper (rel_upper hR hk2)) 0 tw5_77 tw5_75 tw5_76 tw5_74 hdX10_upper rfl ⟨by decide, by decide⟩ hS rfl hl.1 rfl (Nat.le_of_ble_eq_true rfl) dL_law_2207 ⟨by omega, by omega⟩ (fun v μ H locs hK hLI hS => ?_)
  refine lv_aload_n hx hb dL_law_2210 rfl (lv_at hl 1 rfl) ?_
  refine l_callR (rest := [.long (lJ v)]) C hLI (kX11_upper hK) 0 tw7_215 tw7_213 tw7_214 tw7_212 hdX11_upper rfl ⟨by decide, by decide⟩ hS rfl hl.1 rfl (Nat.le_of_ble_eq_true rfl) dL_law_2211 ⟨by omega, by omega⟩ (fun v' r H locs hK2 hLI hS => ?_)
  obtain ⟨ev, hR2⟩ := hK2 ()
  subst ev
  refine W.lcmp hx hb dL_law_2214 (lv_if_eq (tgt := 2307) hx hb dL_law_2215 (by decide) (fun _ => ?_) (fun q => absurd ((lg_cmp_eq _ _).mpr rfl) q))
  exact W.widen (Nat.le_add_right _ _) (Nat.le_add_right _ _) (next _ _ _ _ _ _ rfl hLI hR2 hS)
set_option maxRecDepth 100000 in
set_option maxHeartbeats 4000000 in
theorem lc_53 (C : LC p s m c b L xs D cy) {k : Nat} (hi : 6 * k + 6 ≤ L) (hLI : LI s D cy G ad adR μ r H) (hR : RelK (k : Int) G μ r) (hS : va_S (AL s) s.heap H locs) (hl : lv_has ls 4 [(3, .int (iI ((6 * k : Nat) : Int))), (2, .ref (adR 0 0)), (1, .ref (ad 0 0)), (0, .ref b)]) (hc : cells + 3 ≤ 500000 ∧ slots + 113 ≤ 7000000) (next : ∀ (G' : GG) (ad' : AD) (μ' r' : MM) (H' : Heap) (locs' : List Loc), ad' 0 0 = ad 0 0 → LI s D cy G' ad' adR μ' r' H' → RelK ((k : Int) + 1) G' μ' r' → va_S (AL s) s.heap H' locs' → W p l e room_1 s m #[Value.ref b] below meth c H' locs' (cells + 3) (slots + 113) Qf (F0 m 2307 ls [])) : W p l e room_1 s m #[Value.ref b] below meth c H locs cells slots Qf (F0 m 2220 ls []) := by
  have hx := C.1.1
  have hb := C.1.2.1
  have hL0 := C.2.2.2.2
  have hk2 : (k : Int) < 512 := by omega
  refine lv_aload_n hx hb dL_law_2220 rfl (lv_at hl 2 rfl) ?_
  refine l_callC (rest := []) C hLI (kX10_lower (rel_lower hR hk2)) 0 tw5_81 tw5_79 tw5_80 tw5_78 hdX10_lower rfl ⟨by decide, by decide⟩ hS rfl hl.1 rfl (Nat.le_of_ble_eq_true rfl) dL_law_2221 ⟨by omega, by omega⟩ (fun v μ H locs hK hLI hS => ?_)
  refine lv_aload_n hx hb dL_law_2224 rfl (lv_at hl 1 rfl) ?_
  refine l_callR (rest := [.long (lJ v)]) C hLI (kX11_lower hK) 0 tw7_219 tw7_217 tw7_218 tw7_216 hdX11_lower rfl ⟨by decide, by decide⟩ hS rfl hl.1 rfl (Nat.le_of_ble_eq_true rfl) dL_law_2225 ⟨by omega, by omega⟩ (fun v' r H locs hK2 hLI hS => ?_)
  obtain ⟨ev, hR2⟩ := hK2 ()
  subst ev
  refine W.lcmp hx hb dL_law_2228 (lv_if_eq (tgt := 2307) hx hb dL_law_2229 (by decide) (fun _ => ?_) (fun q => absurd ((lg_cmp_eq _ _).mpr rfl) q))
  exact W.widen (Nat.le_add_right _ _) (Nat.le_add_right _ _) (next _ _ _ _ _ _ rfl hLI hR2 hS)
set_option maxRecDepth 100000 in
set_option maxHeartbeats 4000000 in
theorem lc_54 (C : LC p s m c b L xs D cy) {k : Nat} (hi : 6 * k + 6 ≤ L) (hLI : LI s D cy G ad adR μ r H) (hR : RelK (k : Int) G μ r) (hS : va_S (AL s) s.heap H locs) (hl : lv_has ls 4 [(3, .int (iI ((6 * k : Nat) : Int))), (2, .ref (adR 0 0)), (1, .ref (ad 0 0)), (0, .ref b)]) (hc : cells + 3 ≤ 500000 ∧ slots + 113 ≤ 7000000) (next : ∀ (G' : GG) (ad' : AD) (μ' r' : MM) (H' : Heap) (locs' : List Loc), ad' 0 0 = ad 0 0 → LI s D cy G' ad' adR μ' r' H' → RelK ((k : Int) + 1) G' μ' r' → va_S (AL s) s.heap H' locs' → W p l e room_1 s m #[Value.ref b] below meth c H' locs' (cells + 3) (slots + 113) Qf (F0 m 2307 ls [])) : W p l e room_1 s m #[Value.ref b] below meth c H locs cells slots Qf (F0 m 2234 ls []) := by
  have hx := C.1.1
  have hb := C.1.2.1
  have hL0 := C.2.2.2.2
  have hk2 : (k : Int) < 512 := by omega
  refine lv_aload_n hx hb dL_law_2234 rfl (lv_at hl 2 rfl) ?_
  refine l_ld (j := 1) C hS rfl hl (by omega) dL_law_2235 dL_law_2236 dL_law_2237 dL_law_2238 dL_law_2239 ?_
  refine l_callC (rest := []) C hLI (kX10_count (rel_count hR hk2 _ (XI_rg _ _))) 1 tw5_85 tw5_83 tw5_84 tw5_82 hdX10_count rfl ⟨by decide, by decide⟩ hS rfl hl.1 rfl (Nat.le_of_ble_eq_true rfl) dL_law_2240 ⟨by omega, by omega⟩ (fun v μ H locs hK hLI hS => ?_)
  refine lv_aload_n hx hb dL_law_2243 rfl (lv_at hl 1 rfl) ?_
  refine l_ld (j := 1) C hS rfl hl (by omega) dL_law_2244 dL_law_2245 dL_law_2246 dL_law_2247 dL_law_2248 ?_
  refine l_callR (rest := [.int (iI v)]) C hLI (kX11_count hK) 1 tw7_223 tw7_221 tw7_222 tw7_220 hdX11_count rfl ⟨by decide, by decide⟩ hS rfl hl.1 rfl (Nat.le_of_ble_eq_true rfl) dL_law_2249 ⟨by omega, by omega⟩ (fun v' r H locs hK2 hLI hS => ?_)
  obtain ⟨ev, hR2⟩ := hK2 ()
  subst ev
  refine lv_icmp_eq (tgt := 2307) hx hb dL_law_2252 (by decide) (fun _ => ?_) (fun q => absurd rfl q)
  exact W.widen (Nat.le_add_right _ _) (Nat.le_add_right _ _) (next _ _ _ _ _ _ rfl hLI hR2 hS)
set_option maxRecDepth 100000 in
set_option maxHeartbeats 4000000 in
theorem lc_55 (C : LC p s m c b L xs D cy) {k : Nat} (hi : 6 * k + 6 ≤ L) (hLI : LI s D cy G ad adR μ r H) (hR : RelK (k : Int) G μ r) (hS : va_S (AL s) s.heap H locs) (hl : lv_has ls 4 [(3, .int (iI ((6 * k : Nat) : Int))), (2, .ref (adR 0 0)), (1, .ref (ad 0 0)), (0, .ref b)]) (hc : cells + 3 ≤ 500000 ∧ slots + 113 ≤ 7000000) (next : ∀ (G' : GG) (ad' : AD) (μ' r' : MM) (H' : Heap) (locs' : List Loc), ad' 0 0 = ad 0 0 → LI s D cy G' ad' adR μ' r' H' → RelK ((k : Int) + 1) G' μ' r' → va_S (AL s) s.heap H' locs' → W p l e room_1 s m #[Value.ref b] below meth c H' locs' (cells + 3) (slots + 113) Qf (F0 m 2307 ls [])) : W p l e room_1 s m #[Value.ref b] below meth c H locs cells slots Qf (F0 m 2257 ls []) := by
  have hx := C.1.1
  have hb := C.1.2.1
  have hL0 := C.2.2.2.2
  have hk2 : (k : Int) < 512 := by omega
  refine lv_aload_n hx hb dL_law_2257 rfl (lv_at hl 2 rfl) ?_
  refine l_callC (rest := []) C hLI (kX10_finding (rel_finding hR hk2)) 0 tw5_101 tw5_99 tw5_100 tw5_98 hdX10_finding rfl ⟨by decide, by decide⟩ hS rfl hl.1 rfl (Nat.le_of_ble_eq_true rfl) dL_law_2258 ⟨by omega, by omega⟩ (fun v μ H locs hK hLI hS => ?_)
  refine lv_aload_n hx hb dL_law_2261 rfl (lv_at hl 1 rfl) ?_
  refine l_callR (rest := [.int (iI v)]) C hLI (kX11_finding hK) 0 tw7_227 tw7_225 tw7_226 tw7_224 hdX11_finding rfl ⟨by decide, by decide⟩ hS rfl hl.1 rfl (Nat.le_of_ble_eq_true rfl) dL_law_2262 ⟨by omega, by omega⟩ (fun v' r H locs hK2 hLI hS => ?_)
  obtain ⟨ev, hR2⟩ := hK2 ()
  subst ev
  refine lv_icmp_eq (tgt := 2307) hx hb dL_law_2265 (by decide) (fun _ => ?_) (fun q => absurd rfl q)
  exact W.widen (Nat.le_add_right _ _) (Nat.le_add_right _ _) (next _ _ _ _ _ _ rfl hLI hR2 hS)
set_option maxRecDepth 100000 in
set_option maxHeartbeats 4000000 in
theorem lc_56 (C : LC p s m c b L xs D cy) {k : Nat} (hi : 6 * k + 6 ≤ L) (hLI : LI s D cy G ad adR μ r H) (hR : RelK (k : Int) G μ r) (hS : va_S (AL s) s.heap H locs) (hl : lv_has ls 4 [(3, .int (iI ((6 * k : Nat) : Int))), (2, .ref (adR 0 0)), (1, .ref (ad 0 0)), (0, .ref b)]) (hc : cells + 3 ≤ 500000 ∧ slots + 113 ≤ 7000000) (next : ∀ (G' : GG) (ad' : AD) (μ' r' : MM) (H' : Heap) (locs' : List Loc), ad' 0 0 = ad 0 0 → LI s D cy G' ad' adR μ' r' H' → RelK ((k : Int) + 1) G' μ' r' → va_S (AL s) s.heap H' locs' → W p l e room_1 s m #[Value.ref b] below meth c H' locs' (cells + 3) (slots + 113) Qf (F0 m 2307 ls [])) : W p l e room_1 s m #[Value.ref b] below meth c H locs cells slots Qf (F0 m 2270 ls []) := by
  have hx := C.1.1
  have hb := C.1.2.1
  have hL0 := C.2.2.2.2
  have hk2 : (k : Int) < 512 := by omega
  refine lv_aload_n hx hb dL_law_2270 rfl (lv_at hl 2 rfl) ?_
  refine l_ld (j := 1) C hS rfl hl (by omega) dL_law_2271 dL_law_2272 dL_law_2273 dL_law_2274 dL_law_2275 ?_
  refine l_callC (rest := []) C hLI (kX10_findings (rel_findings hR hk2 _ (XI_rg _ _))) 1 tw5_105 tw5_103 tw5_104 tw5_102 hdX10_findings rfl ⟨by decide, by decide⟩ hS rfl hl.1 rfl (Nat.le_of_ble_eq_true rfl) dL_law_2276 ⟨by omega, by omega⟩ (fun v μ H locs hK hLI hS => ?_)
  refine lv_aload_n hx hb dL_law_2279 rfl (lv_at hl 1 rfl) ?_
  refine l_ld (j := 1) C hS rfl hl (by omega) dL_law_2280 dL_law_2281 dL_law_2282 dL_law_2283 dL_law_2284 ?_
  refine l_callR (rest := [.int (iI v)]) C hLI (kX11_findings hK) 1 tw7_231 tw7_229 tw7_230 tw7_228 hdX11_findings rfl ⟨by decide, by decide⟩ hS rfl hl.1 rfl (Nat.le_of_ble_eq_true rfl) dL_law_2285 ⟨by omega, by omega⟩ (fun v' r H locs hK2 hLI hS => ?_)
  obtain ⟨ev, hR2⟩ := hK2 ()
  subst ev
  refine lv_icmp_eq (tgt := 2307) hx hb dL_law_2288 (by decide) (fun _ => ?_) (fun q => absurd rfl q)
  exact W.widen (Nat.le_add_right _ _) (Nat.le_add_right _ _) (next _ _ _ _ _ _ rfl hLI hR2 hS)
set_option maxRecDepth 100000 in
set_option maxHeartbeats 4000000 in
theorem lc_57 (C : LC p s m c b L xs D cy) {k : Nat} (hi : 6 * k + 6 ≤ L) (hLI : LI s D cy G ad adR μ r H) (hR : RelK (k : Int) G μ r) (hS : va_S (AL s) s.heap H locs) (hl : lv_has ls 4 [(3, .int (iI ((6 * k : Nat) : Int))), (2, .ref (adR 0 0)), (1, .ref (ad 0 0)), (0, .ref b)]) (hc : cells + 3 ≤ 500000 ∧ slots + 113 ≤ 7000000) (next : ∀ (G' : GG) (ad' : AD) (μ' r' : MM) (H' : Heap) (locs' : List Loc), ad' 0 0 = ad 0 0 → LI s D cy G' ad' adR μ' r' H' → RelK ((k : Int) + 1) G' μ' r' → va_S (AL s) s.heap H' locs' → W p l e room_1 s m #[Value.ref b] below meth c H' locs' (cells + 3) (slots + 113) Qf (F0 m 2307 ls [])) : W p l e room_1 s m #[Value.ref b] below meth c H locs cells slots Qf (F0 m 2293 ls []) := by
  have hx := C.1.1
  have hb := C.1.2.1
  have hL0 := C.2.2.2.2
  have hk2 : (k : Int) < 512 := by omega
  refine lv_aload_n hx hb dL_law_2293 rfl (lv_at hl 2 rfl) ?_
  refine l_callC (rest := []) C hLI (kX10_digest (rel_digest hR hk2)) 0 tw5_109 tw5_107 tw5_108 tw5_106 hdX10_digest rfl ⟨by decide, by decide⟩ hS rfl hl.1 rfl (Nat.le_of_ble_eq_true rfl) dL_law_2294 ⟨by omega, by omega⟩ (fun v μ H locs hK hLI hS => ?_)
  refine lv_aload_n hx hb dL_law_2297 rfl (lv_at hl 1 rfl) ?_
  refine l_callR (rest := [.long (lJ v)]) C hLI (kX11_digest hK) 0 tw7_235 tw7_233 tw7_234 tw7_232 hdX11_digest rfl ⟨by decide, by decide⟩ hS rfl hl.1 rfl (Nat.le_of_ble_eq_true rfl) dL_law_2298 ⟨by omega, by omega⟩ (fun v' r H locs hK2 hLI hS => ?_)
  obtain ⟨ev, hR2⟩ := hK2 ()
  subst ev
  refine W.lcmp hx hb dL_law_2301 (lv_if_eq (tgt := 2307) hx hb dL_law_2302 (by decide) (fun _ => ?_) (fun q => absurd ((lg_cmp_eq _ _).mpr rfl) q))
  exact W.widen (Nat.le_add_right _ _) (Nat.le_add_right _ _) (next _ _ _ _ _ _ rfl hLI hR2 hS)
end
