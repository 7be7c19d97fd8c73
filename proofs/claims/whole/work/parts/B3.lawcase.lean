set_option maxRecDepth 100000 in
theorem lc_21 {l : Launch} {G : jG} {a a2 o b N ck sk : Nat} {xs : Nat → Int32} {i n : Int} {QF : jF} {h : jH} (hl0 : l.stackTraces = false) (hN : N ≤ 2560) (hi : 0 ≤ i ∧ i + 5 ≤ (N : Int)) (hn : n < 512) (H : LI G a a2 o n h) (kk : ∀ h', LI G a a2 o (n + 1) h' → J l G mL_law (QH G b N xs QF) ck sk 3041 [(4, vI i), (3, .ref o), (2, .ref a2), (1, .ref a), (0, .ref b)] [] h') : J l G mL_law (QH G b N xs QF) (ck + 1030) (sk + 4110) 1720 [(4, vI i), (3, .ref o), (2, .ref a2), (1, .ref a), (0, .ref b)] [] h := by
  obtain ⟨d, s, Z, d2, mp, p, Z2, f, hD, hZ, hI, hM, hZ2, hMI, hd, ho, hf, hev⟩ := H
  have hO : ∀ {P : Nat → OS} {p0 : OS} {h' : jH}, DN G a d h P p0 h' → h' o = some (aJ G 1 f) := fun hp => by obtain ⟨_, _, _, _, _, g⟩ := hp; exact (g o (fun z => (hd o z).2 rfl)).trans hf
  refine j_aload_n 1 dL_law_1720 rfl rfl ?_
  refine j_aload_n 0 dL_law_1721 rfl rfl ?_
  refine j_iload dL_law_1722 rfl ?_
  refine J_iconst dL_law_1724 ?_
  refine J_iadd dL_law_1725 ?_
  refine J_sld dL_law_1726 (by omega) ?_
  refine j_aload_n 0 dL_law_1727 rfl rfl ?_
  refine j_iload dL_law_1728 rfl ?_
  refine J_iconst dL_law_1730 ?_
  refine J_iadd dL_law_1731 ?_
  refine J_sld dL_law_1732 (by omega) ?_
  refine j_aload_n 0 dL_law_1733 rfl rfl ?_
  refine j_iload dL_law_1734 rfl ?_
  refine J_iconst dL_law_1736 ?_
  refine J_iadd dL_law_1737 ?_
  refine J_sld dL_law_1738 (by omega) ?_
  refine j_aload_n 3 dL_law_1739 rfl rfl ?_
  refine j_callSH (ck' := ck + 1029) (sk' := sk + 4104) kL_217 ceL_isTied csL_isTied (c_L_isTied (f := f) hD.1 (toDN (c_X9_isTied hl0 hD hI hZ (sX_rg _ _) (sX_rg _ _) (sX_rg _ _))) (hr1 rfl) (fun _ hp => hO hp) (ifb01 (bI_01 _))) (fun E h' hp => by cases hp.1) rfl rfl rfl rfl rfl dL_law_1740 (by show 1 + (ck + 1029) ≤ ck + 1030; omega) (by show 6 + (sk + 4104) ≤ sk + 4110; omega) (fun v9 h2 hp => ?_)
  obtain ⟨ev9, h1, f', hN1, hf', hv', h12⟩ := hp
  cases ev9
  obtain ⟨s', hD', hI', es, ep, hM'⟩ := law_A hM hd ho hN1 h12
  refine j_istore (L' := [(5, _), (4, _), (3, _), (2, _), (1, _), (0, _)]) dL_law_1743 rfl rfl ?_
  refine j_aload_n 2 dL_law_1745 rfl rfl ?_
  refine j_aload_n 0 dL_law_1746 rfl rfl ?_
  refine j_iload dL_law_1747 rfl ?_
  refine J_iconst dL_law_1749 ?_
  refine J_iadd dL_law_1750 ?_
  refine J_sld dL_law_1751 (by omega) ?_
  refine j_aload_n 0 dL_law_1752 rfl rfl ?_
  refine j_iload dL_law_1753 rfl ?_
  refine J_iconst dL_law_1755 ?_
  refine J_iadd dL_law_1756 ?_
  refine J_sld dL_law_1757 (by omega) ?_
  refine j_aload_n 0 dL_law_1758 rfl rfl ?_
  refine j_iload dL_law_1759 rfl ?_
  refine J_iconst dL_law_1761 ?_
  refine J_iadd dL_law_1762 ?_
  refine J_sld dL_law_1763 (by omega) ?_
  refine j_callV (ck' := ck + 1029) (sk' := sk + 4104) kL_219 cvX11_isTied hM'.1.1 (toMN hZ2 (c_X11_isTied hM' hZ2 hMI (sX_rg _ _) (sX_rg _ _) (sX_rg _ _))) rfl rfl rfl rfl rfl dL_law_1764 (by show 0 + (ck + 1029) ≤ ck + 1029; omega) (by show 0 + (sk + 4104) ≤ sk + 4104; omega) (fun v9 h3 hp => ?_) (fun E h' hp => by cases hp.1)
  obtain ⟨ev9, hN2⟩ := hp
  cases ev9
  obtain ⟨d3, mp3, p3, Z3, hM3, hZ3, hMI3, ht3, hD3, hd3, ho3, hf3⟩ := law_B hD' hd ho hf' es ep hN2
  have hE : evs s'.1 ≤ n + 1 := by rw [es]; omega
  refine j_istore (L' := [(6, _), (5, _), (4, _), (3, _), (2, _), (1, _), (0, _)]) dL_law_1767 rfl rfl ?_
  refine j_aload_n 2 dL_law_1769 rfl rfl ?_
  refine J_callV1 kL_150 cvX11_thrown hM3.1.1 (c_X11_thrown hM3 hZ3 hMI3) rfl rfl rfl rfl rfl dL_law_1770 rfl rfl ?_
  rw [ht3]
  refine j_iload dL_law_1773 rfl ?_
  refine j_icmp_eq 1780 dL_law_1775 (by decide) (fun _ => ?_) (fun c => absurd rfl c)
  refine j_iload dL_law_1780 rfl ?_
  refine J_if_ne 1804 dL_law_1782 (by decide) (fun c => ?_) (fun c => ?_) rg_t1
  · refine j_goto 3041 dL_law_1804 (by decide) ?_
    refine j_room (ck' := ck) (sk' := sk) (by omega) (by omega) ?_
    exact j_locR (kk _ ⟨d, s', Z, d3, mp3, p3, Z3, _, hD3, hZ, hI', hM3, hZ3, hMI3, hd3, ho3, hf3, hE⟩) (by repeat' (first | exact True.intro | refine And.intro rfl ?_))
  · refine j_aload_n 3 dL_law_1785 rfl rfl ?_
    refine J_iconst dL_law_1786 ?_
    refine j_lald dL_law_1787 hf3 (I_vpin (by decide) (by decide)) ?_
    refine j_iload dL_law_1788 rfl ?_
    have hf9 := hv' c
    refine j_if_eq 1797 dL_law_1790 (by decide) (fun c9 => ?_) (fun c9 => ?_)
    · refine j_lconst (Int64.ofInt 0) dL_law_1797 (by decide) ?_
      refine J_lcmp0 dL_law_1798 (hf9.trans (ofI0 c9)) ?_
      refine J_if_eq 1804 dL_law_1799 (by decide) (fun _ => ?_) (fun c => absurd rfl c) (by decide)
      refine j_goto 3041 dL_law_1804 (by decide) ?_
      refine j_room (ck' := ck) (sk' := sk) (by omega) (by omega) ?_
      exact j_locR (kk _ ⟨d, s', Z, d3, mp3, p3, Z3, _, hD3, hZ, hI', hM3, hZ3, hMI3, hd3, ho3, hf3, hE⟩) (by repeat' (first | exact True.intro | refine And.intro rfl ?_))
    · refine j_lconst (Int64.ofInt 1) dL_law_1793 (by decide) ?_
      refine j_goto 1798 dL_law_1794 (by decide) ?_
      refine J_lcmp0 dL_law_1798 (hf9.trans (ofI1 c9)) ?_
      refine J_if_eq 1804 dL_law_1799 (by decide) (fun _ => ?_) (fun c => absurd rfl c) (by decide)
      refine j_goto 3041 dL_law_1804 (by decide) ?_
      refine j_room (ck' := ck) (sk' := sk) (by omega) (by omega) ?_
      exact j_locR (kk _ ⟨d, s', Z, d3, mp3, p3, Z3, _, hD3, hZ, hI', hM3, hZ3, hMI3, hd3, ho3, hf3, hE⟩) (by repeat' (first | exact True.intro | refine And.intro rfl ?_))
set_option maxRecDepth 100000 in
theorem lc_22 {l : Launch} {G : jG} {a a2 o b N ck sk : Nat} {xs : Nat → Int32} {i n : Int} {QF : jF} {h : jH} (hl0 : l.stackTraces = false) (hN : N ≤ 2560) (hi : 0 ≤ i ∧ i + 5 ≤ (N : Int)) (hn : n < 512) (H : LI G a a2 o n h) (kk : ∀ h', LI G a a2 o (n + 1) h' → J l G mL_law (QH G b N xs QF) ck sk 3041 [(4, vI i), (3, .ref o), (2, .ref a2), (1, .ref a), (0, .ref b)] [] h') : J l G mL_law (QH G b N xs QF) (ck + 1030) (sk + 4110) 1807 [(4, vI i), (3, .ref o), (2, .ref a2), (1, .ref a), (0, .ref b)] [] h := by
  obtain ⟨d, s, Z, d2, mp, p, Z2, f, hD, hZ, hI, hM, hZ2, hMI, hd, ho, hf, hev⟩ := H
  have hO : ∀ {P : Nat → OS} {p0 : OS} {h' : jH}, DN G a d h P p0 h' → h' o = some (aJ G 1 f) := fun hp => by obtain ⟨_, _, _, _, _, g⟩ := hp; exact (g o (fun z => (hd o z).2 rfl)).trans hf
  refine j_aload_n 1 dL_law_1807 rfl rfl ?_
  refine j_aload_n 0 dL_law_1808 rfl rfl ?_
  refine j_iload dL_law_1809 rfl ?_
  refine J_iconst dL_law_1811 ?_
  refine J_iadd dL_law_1812 ?_
  refine J_sld dL_law_1813 (by omega) ?_
  refine j_aload_n 0 dL_law_1814 rfl rfl ?_
  refine j_iload dL_law_1815 rfl ?_
  refine J_iconst dL_law_1817 ?_
  refine J_iadd dL_law_1818 ?_
  refine J_sld dL_law_1819 (by omega) ?_
  refine j_aload_n 0 dL_law_1820 rfl rfl ?_
  refine j_iload dL_law_1821 rfl ?_
  refine J_iconst dL_law_1823 ?_
  refine J_iadd dL_law_1824 ?_
  refine J_sld dL_law_1825 (by omega) ?_
  refine j_aload_n 3 dL_law_1826 rfl rfl ?_
  refine j_callSH (ck' := ck + 1029) (sk' := sk + 4104) kL_220 ceL_shown csL_shown (c_L_shown (f := f) hD.1 (toDN (c_X9_shown hl0 hD hI hZ (sX_rg _ _) (sX_rg _ _) (sX_rg _ _))) (hr1 rfl) (fun _ hp => hO hp)) (fun E h' hp => by cases hp.1) rfl rfl rfl rfl rfl dL_law_1827 (by show 1 + (ck + 1029) ≤ ck + 1030; omega) (by show 6 + (sk + 4104) ≤ sk + 4110; omega) (fun v9 h2 hp => ?_)
  obtain ⟨ev9, h1, f', hN1, hf', hv', h12⟩ := hp
  cases ev9
  obtain ⟨s', hD', hI', es, ep, hM'⟩ := law_A hM hd ho hN1 h12
  refine j_istore (L' := [(5, _), (4, _), (3, _), (2, _), (1, _), (0, _)]) dL_law_1830 rfl rfl ?_
  refine j_aload_n 2 dL_law_1832 rfl rfl ?_
  refine j_aload_n 0 dL_law_1833 rfl rfl ?_
  refine j_iload dL_law_1834 rfl ?_
  refine J_iconst dL_law_1836 ?_
  refine J_iadd dL_law_1837 ?_
  refine J_sld dL_law_1838 (by omega) ?_
  refine j_aload_n 0 dL_law_1839 rfl rfl ?_
  refine j_iload dL_law_1840 rfl ?_
  refine J_iconst dL_law_1842 ?_
  refine J_iadd dL_law_1843 ?_
  refine J_sld dL_law_1844 (by omega) ?_
  refine j_aload_n 0 dL_law_1845 rfl rfl ?_
  refine j_iload dL_law_1846 rfl ?_
  refine J_iconst dL_law_1848 ?_
  refine J_iadd dL_law_1849 ?_
  refine J_sld dL_law_1850 (by omega) ?_
  refine j_callV (ck' := ck + 1029) (sk' := sk + 4104) kL_222 cvX11_shown hM'.1.1 (toMN hZ2 (c_X11_shown hM' hZ2 hMI (sX_rg _ _) (sX_rg _ _) (sX_rg _ _))) rfl rfl rfl rfl rfl dL_law_1851 (by show 0 + (ck + 1029) ≤ ck + 1029; omega) (by show 0 + (sk + 4104) ≤ sk + 4104; omega) (fun v9 h3 hp => ?_) (fun E h' hp => by cases hp.1)
  obtain ⟨ev9, hN2⟩ := hp
  cases ev9
  obtain ⟨d3, mp3, p3, Z3, hM3, hZ3, hMI3, ht3, hD3, hd3, ho3, hf3⟩ := law_B hD' hd ho hf' es ep hN2
  have hE : evs s'.1 ≤ n + 1 := by rw [es]; omega
  refine j_istore (L' := [(6, _), (5, _), (4, _), (3, _), (2, _), (1, _), (0, _)]) dL_law_1854 rfl rfl ?_
  refine j_aload_n 2 dL_law_1856 rfl rfl ?_
  refine J_callV1 kL_150 cvX11_thrown hM3.1.1 (c_X11_thrown hM3 hZ3 hMI3) rfl rfl rfl rfl rfl dL_law_1857 rfl rfl ?_
  rw [ht3]
  refine j_iload dL_law_1860 rfl ?_
  refine j_icmp_eq 1867 dL_law_1862 (by decide) (fun _ => ?_) (fun c => absurd rfl c)
  refine j_iload dL_law_1867 rfl ?_
  refine J_if_ne 1884 dL_law_1869 (by decide) (fun c => ?_) (fun c => ?_) rg_t1
  · refine j_goto 3041 dL_law_1884 (by decide) ?_
    refine j_room (ck' := ck) (sk' := sk) (by omega) (by omega) ?_
    exact j_locR (kk _ ⟨d, s', Z, d3, mp3, p3, Z3, _, hD3, hZ, hI', hM3, hZ3, hMI3, hd3, ho3, hf3, hE⟩) (by repeat' (first | exact True.intro | refine And.intro rfl ?_))
  · refine j_aload_n 3 dL_law_1872 rfl rfl ?_
    refine J_iconst dL_law_1873 ?_
    refine j_lald dL_law_1874 hf3 (I_vpin (by decide) (by decide)) ?_
    refine j_iload dL_law_1875 rfl ?_
    refine j_i2l dL_law_1877 ?_
    refine J_lcmp0 dL_law_1878 (hv' c) ?_
    refine J_if_eq 1884 dL_law_1879 (by decide) (fun _ => ?_) (fun c => absurd rfl c) (by decide)
    refine j_goto 3041 dL_law_1884 (by decide) ?_
    refine j_room (ck' := ck) (sk' := sk) (by omega) (by omega) ?_
    exact j_locR (kk _ ⟨d, s', Z, d3, mp3, p3, Z3, _, hD3, hZ, hI', hM3, hZ3, hMI3, hd3, ho3, hf3, hE⟩) (by repeat' (first | exact True.intro | refine And.intro rfl ?_))
set_option maxRecDepth 100000 in
theorem lc_23 {l : Launch} {G : jG} {a a2 o b N ck sk : Nat} {xs : Nat → Int32} {i n : Int} {QF : jF} {h : jH} (hl0 : l.stackTraces = false) (hN : N ≤ 2560) (hi : 0 ≤ i ∧ i + 5 ≤ (N : Int)) (hn : n < 512) (H : LI G a a2 o n h) (kk : ∀ h', LI G a a2 o (n + 1) h' → J l G mL_law (QH G b N xs QF) ck sk 3041 [(4, vI i), (3, .ref o), (2, .ref a2), (1, .ref a), (0, .ref b)] [] h') : J l G mL_law (QH G b N xs QF) (ck + 1030) (sk + 4110) 1887 [(4, vI i), (3, .ref o), (2, .ref a2), (1, .ref a), (0, .ref b)] [] h := by
  obtain ⟨d, s, Z, d2, mp, p, Z2, f, hD, hZ, hI, hM, hZ2, hMI, hd, ho, hf, hev⟩ := H
  have hO : ∀ {P : Nat → OS} {p0 : OS} {h' : jH}, DN G a d h P p0 h' → h' o = some (aJ G 1 f) := fun hp => by obtain ⟨_, _, _, _, _, g⟩ := hp; exact (g o (fun z => (hd o z).2 rfl)).trans hf
  refine j_aload_n 1 dL_law_1887 rfl rfl ?_
  refine j_aload_n 0 dL_law_1888 rfl rfl ?_
  refine j_iload dL_law_1889 rfl ?_
  refine J_iconst dL_law_1891 ?_
  refine J_iadd dL_law_1892 ?_
  refine J_sld dL_law_1893 (by omega) ?_
  refine j_aload_n 0 dL_law_1894 rfl rfl ?_
  refine j_iload dL_law_1895 rfl ?_
  refine J_iconst dL_law_1897 ?_
  refine J_iadd dL_law_1898 ?_
  refine J_sld dL_law_1899 (by omega) ?_
  refine j_aload_n 0 dL_law_1900 rfl rfl ?_
  refine j_iload dL_law_1901 rfl ?_
  refine J_iconst dL_law_1903 ?_
  refine J_iadd dL_law_1904 ?_
  refine J_sld dL_law_1905 (by omega) ?_
  refine j_aload_n 3 dL_law_1906 rfl rfl ?_
  refine j_callSH (ck' := ck + 1029) (sk' := sk + 4104) kL_223 ceL_shownWritten csL_shownWritten (c_L_shownWritten (f := f) hD.1 (toDN (c_X9_shownWritten hl0 hD hI hZ (sX_rg _ _) (sX_rg _ _) (sX_rg _ _))) (hr1 rfl) (fun _ hp => hO hp)) (fun E h' hp => by cases hp.1) rfl rfl rfl rfl rfl dL_law_1907 (by show 1 + (ck + 1029) ≤ ck + 1030; omega) (by show 6 + (sk + 4104) ≤ sk + 4110; omega) (fun v9 h2 hp => ?_)
  obtain ⟨ev9, h1, f', hN1, hf', hv', h12⟩ := hp
  cases ev9
  obtain ⟨s', hD', hI', es, ep, hM'⟩ := law_A hM hd ho hN1 h12
  refine j_istore (L' := [(5, _), (4, _), (3, _), (2, _), (1, _), (0, _)]) dL_law_1910 rfl rfl ?_
  refine j_aload_n 2 dL_law_1912 rfl rfl ?_
  refine j_aload_n 0 dL_law_1913 rfl rfl ?_
  refine j_iload dL_law_1914 rfl ?_
  refine J_iconst dL_law_1916 ?_
  refine J_iadd dL_law_1917 ?_
  refine J_sld dL_law_1918 (by omega) ?_
  refine j_aload_n 0 dL_law_1919 rfl rfl ?_
  refine j_iload dL_law_1920 rfl ?_
  refine J_iconst dL_law_1922 ?_
  refine J_iadd dL_law_1923 ?_
  refine J_sld dL_law_1924 (by omega) ?_
  refine j_aload_n 0 dL_law_1925 rfl rfl ?_
  refine j_iload dL_law_1926 rfl ?_
  refine J_iconst dL_law_1928 ?_
  refine J_iadd dL_law_1929 ?_
  refine J_sld dL_law_1930 (by omega) ?_
  refine j_callV (ck' := ck + 1029) (sk' := sk + 4104) kL_225 cvX11_shownWritten hM'.1.1 (toMN hZ2 (c_X11_shownWritten hM' hZ2 hMI (sX_rg _ _) (sX_rg _ _) (sX_rg _ _))) rfl rfl rfl rfl rfl dL_law_1931 (by show 0 + (ck + 1029) ≤ ck + 1029; omega) (by show 0 + (sk + 4104) ≤ sk + 4104; omega) (fun v9 h3 hp => ?_) (fun E h' hp => by cases hp.1)
  obtain ⟨ev9, hN2⟩ := hp
  cases ev9
  obtain ⟨d3, mp3, p3, Z3, hM3, hZ3, hMI3, ht3, hD3, hd3, ho3, hf3⟩ := law_B hD' hd ho hf' es ep hN2
  have hE : evs s'.1 ≤ n + 1 := by rw [es]; omega
  refine j_istore (L' := [(6, _), (5, _), (4, _), (3, _), (2, _), (1, _), (0, _)]) dL_law_1934 rfl rfl ?_
  refine j_aload_n 2 dL_law_1936 rfl rfl ?_
  refine J_callV1 kL_150 cvX11_thrown hM3.1.1 (c_X11_thrown hM3 hZ3 hMI3) rfl rfl rfl rfl rfl dL_law_1937 rfl rfl ?_
  rw [ht3]
  refine j_iload dL_law_1940 rfl ?_
  refine j_icmp_eq 1947 dL_law_1942 (by decide) (fun _ => ?_) (fun c => absurd rfl c)
  refine j_iload dL_law_1947 rfl ?_
  refine J_if_ne 1964 dL_law_1949 (by decide) (fun c => ?_) (fun c => ?_) rg_t1
  · refine j_goto 3041 dL_law_1964 (by decide) ?_
    refine j_room (ck' := ck) (sk' := sk) (by omega) (by omega) ?_
    exact j_locR (kk _ ⟨d, s', Z, d3, mp3, p3, Z3, _, hD3, hZ, hI', hM3, hZ3, hMI3, hd3, ho3, hf3, hE⟩) (by repeat' (first | exact True.intro | refine And.intro rfl ?_))
  · refine j_aload_n 3 dL_law_1952 rfl rfl ?_
    refine J_iconst dL_law_1953 ?_
    refine j_lald dL_law_1954 hf3 (I_vpin (by decide) (by decide)) ?_
    refine j_iload dL_law_1955 rfl ?_
    refine j_i2l dL_law_1957 ?_
    refine J_lcmp0 dL_law_1958 (hv' c) ?_
    refine J_if_eq 1964 dL_law_1959 (by decide) (fun _ => ?_) (fun c => absurd rfl c) (by decide)
    refine j_goto 3041 dL_law_1964 (by decide) ?_
    refine j_room (ck' := ck) (sk' := sk) (by omega) (by omega) ?_
    exact j_locR (kk _ ⟨d, s', Z, d3, mp3, p3, Z3, _, hD3, hZ, hI', hM3, hZ3, hMI3, hd3, ho3, hf3, hE⟩) (by repeat' (first | exact True.intro | refine And.intro rfl ?_))
set_option maxRecDepth 100000 in
theorem lc_24 {l : Launch} {G : jG} {a a2 o b N ck sk : Nat} {xs : Nat → Int32} {i n : Int} {QF : jF} {h : jH} (hl0 : l.stackTraces = false) (hN : N ≤ 2560) (hi : 0 ≤ i ∧ i + 5 ≤ (N : Int)) (hn : n < 512) (H : LI G a a2 o n h) (kk : ∀ h', LI G a a2 o (n + 1) h' → J l G mL_law (QH G b N xs QF) ck sk 3041 [(4, vI i), (3, .ref o), (2, .ref a2), (1, .ref a), (0, .ref b)] [] h') : J l G mL_law (QH G b N xs QF) (ck + 1030) (sk + 4110) 1967 [(4, vI i), (3, .ref o), (2, .ref a2), (1, .ref a), (0, .ref b)] [] h := by
  obtain ⟨d, s, Z, d2, mp, p, Z2, f, hD, hZ, hI, hM, hZ2, hMI, hd, ho, hf, hev⟩ := H
  have hO : ∀ {P : Nat → OS} {p0 : OS} {h' : jH}, DN G a d h P p0 h' → h' o = some (aJ G 1 f) := fun hp => by obtain ⟨_, _, _, _, _, g⟩ := hp; exact (g o (fun z => (hd o z).2 rfl)).trans hf
  refine j_aload_n 1 dL_law_1967 rfl rfl ?_
  refine j_aload_n 0 dL_law_1968 rfl rfl ?_
  refine j_iload dL_law_1969 rfl ?_
  refine J_iconst dL_law_1971 ?_
  refine J_iadd dL_law_1972 ?_
  refine J_sld dL_law_1973 (by omega) ?_
  refine j_aload_n 0 dL_law_1974 rfl rfl ?_
  refine j_iload dL_law_1975 rfl ?_
  refine J_iconst dL_law_1977 ?_
  refine J_iadd dL_law_1978 ?_
  refine J_sld dL_law_1979 (by omega) ?_
  refine j_aload_n 3 dL_law_1980 rfl rfl ?_
  refine j_callSH (ck' := ck + 1029) (sk' := sk + 4104) kL_226 ceL_beams csL_beams (c_L_beams (f := f) hD.1 (toDN (c_X9_beams hl0 hD hI hZ (sX_rg _ _) (sX_rg _ _))) (hr1 rfl) (fun _ hp => hO hp)) (fun E h' hp => by cases hp.1) rfl rfl rfl rfl rfl dL_law_1981 (by show 1 + (ck + 1029) ≤ ck + 1030; omega) (by show 6 + (sk + 4104) ≤ sk + 4110; omega) (fun v9 h2 hp => ?_)
  obtain ⟨ev9, h1, f', hN1, hf', hv', h12⟩ := hp
  cases ev9
  obtain ⟨s', hD', hI', es, ep, hM'⟩ := law_A hM hd ho hN1 h12
  refine j_istore (L' := [(5, _), (4, _), (3, _), (2, _), (1, _), (0, _)]) dL_law_1984 rfl rfl ?_
  refine j_aload_n 2 dL_law_1986 rfl rfl ?_
  refine j_aload_n 0 dL_law_1987 rfl rfl ?_
  refine j_iload dL_law_1988 rfl ?_
  refine J_iconst dL_law_1990 ?_
  refine J_iadd dL_law_1991 ?_
  refine J_sld dL_law_1992 (by omega) ?_
  refine j_aload_n 0 dL_law_1993 rfl rfl ?_
  refine j_iload dL_law_1994 rfl ?_
  refine J_iconst dL_law_1996 ?_
  refine J_iadd dL_law_1997 ?_
  refine J_sld dL_law_1998 (by omega) ?_
  refine j_callV (ck' := ck + 1029) (sk' := sk + 4104) kL_228 cvX11_beams hM'.1.1 (toMN hZ2 (c_X11_beams hM' hZ2 hMI (sX_rg _ _) (sX_rg _ _))) rfl rfl rfl rfl rfl dL_law_1999 (by show 0 + (ck + 1029) ≤ ck + 1029; omega) (by show 0 + (sk + 4104) ≤ sk + 4104; omega) (fun v9 h3 hp => ?_) (fun E h' hp => by cases hp.1)
  obtain ⟨ev9, hN2⟩ := hp
  cases ev9
  obtain ⟨d3, mp3, p3, Z3, hM3, hZ3, hMI3, ht3, hD3, hd3, ho3, hf3⟩ := law_B hD' hd ho hf' es ep hN2
  have hE : evs s'.1 ≤ n + 1 := by rw [es]; omega
  refine j_istore (L' := [(6, _), (5, _), (4, _), (3, _), (2, _), (1, _), (0, _)]) dL_law_2002 rfl rfl ?_
  refine j_aload_n 2 dL_law_2004 rfl rfl ?_
  refine J_callV1 kL_150 cvX11_thrown hM3.1.1 (c_X11_thrown hM3 hZ3 hMI3) rfl rfl rfl rfl rfl dL_law_2005 rfl rfl ?_
  rw [ht3]
  refine j_iload dL_law_2008 rfl ?_
  refine j_icmp_eq 2015 dL_law_2010 (by decide) (fun _ => ?_) (fun c => absurd rfl c)
  refine j_iload dL_law_2015 rfl ?_
  refine J_if_ne 2032 dL_law_2017 (by decide) (fun c => ?_) (fun c => ?_) rg_t1
  · refine j_goto 3041 dL_law_2032 (by decide) ?_
    refine j_room (ck' := ck) (sk' := sk) (by omega) (by omega) ?_
    exact j_locR (kk _ ⟨d, s', Z, d3, mp3, p3, Z3, _, hD3, hZ, hI', hM3, hZ3, hMI3, hd3, ho3, hf3, hE⟩) (by repeat' (first | exact True.intro | refine And.intro rfl ?_))
  · refine j_aload_n 3 dL_law_2020 rfl rfl ?_
    refine J_iconst dL_law_2021 ?_
    refine j_lald dL_law_2022 hf3 (I_vpin (by decide) (by decide)) ?_
    refine j_iload dL_law_2023 rfl ?_
    refine j_i2l dL_law_2025 ?_
    refine J_lcmp0 dL_law_2026 (hv' c) ?_
    refine J_if_eq 2032 dL_law_2027 (by decide) (fun _ => ?_) (fun c => absurd rfl c) (by decide)
    refine j_goto 3041 dL_law_2032 (by decide) ?_
    refine j_room (ck' := ck) (sk' := sk) (by omega) (by omega) ?_
    exact j_locR (kk _ ⟨d, s', Z, d3, mp3, p3, Z3, _, hD3, hZ, hI', hM3, hZ3, hMI3, hd3, ho3, hf3, hE⟩) (by repeat' (first | exact True.intro | refine And.intro rfl ?_))
set_option maxRecDepth 100000 in
theorem lc_25 {l : Launch} {G : jG} {a a2 o b N ck sk : Nat} {xs : Nat → Int32} {i n : Int} {QF : jF} {h : jH} (hl0 : l.stackTraces = false) (hN : N ≤ 2560) (hi : 0 ≤ i ∧ i + 5 ≤ (N : Int)) (hn : n < 512) (H : LI G a a2 o n h) (kk : ∀ h', LI G a a2 o (n + 1) h' → J l G mL_law (QH G b N xs QF) ck sk 3041 [(4, vI i), (3, .ref o), (2, .ref a2), (1, .ref a), (0, .ref b)] [] h') : J l G mL_law (QH G b N xs QF) (ck + 1030) (sk + 4110) 2035 [(4, vI i), (3, .ref o), (2, .ref a2), (1, .ref a), (0, .ref b)] [] h := by
  obtain ⟨d, s, Z, d2, mp, p, Z2, f, hD, hZ, hI, hM, hZ2, hMI, hd, ho, hf, hev⟩ := H
  have hO : ∀ {P : Nat → OS} {p0 : OS} {h' : jH}, DN G a d h P p0 h' → h' o = some (aJ G 1 f) := fun hp => by obtain ⟨_, _, _, _, _, g⟩ := hp; exact (g o (fun z => (hd o z).2 rfl)).trans hf
  refine j_aload_n 1 dL_law_2035 rfl rfl ?_
  refine j_aload_n 0 dL_law_2036 rfl rfl ?_
  refine j_iload dL_law_2037 rfl ?_
  refine J_iconst dL_law_2039 ?_
  refine J_iadd dL_law_2040 ?_
  refine J_sld dL_law_2041 (by omega) ?_
  refine j_aload_n 0 dL_law_2042 rfl rfl ?_
  refine j_iload dL_law_2043 rfl ?_
  refine J_iconst dL_law_2045 ?_
  refine J_iadd dL_law_2046 ?_
  refine J_sld dL_law_2047 (by omega) ?_
  refine j_aload_n 0 dL_law_2048 rfl rfl ?_
  refine j_iload dL_law_2049 rfl ?_
  refine J_iconst dL_law_2051 ?_
  refine J_iadd dL_law_2052 ?_
  refine J_sld dL_law_2053 (by omega) ?_
  refine j_aload_n 3 dL_law_2054 rfl rfl ?_
  refine j_callSH (ck' := ck + 1029) (sk' := sk + 4104) kL_229 ceL_beamOf csL_beamOf (c_L_beamOf (f := f) hD.1 (toDN (c_X9_beamOf hl0 hD hI hZ (sX_rg _ _) (sX_rg _ _) (sX_rg _ _))) (hr1 rfl) (fun _ hp => hO hp)) (fun E h' hp => by cases hp.1) rfl rfl rfl rfl rfl dL_law_2055 (by show 1 + (ck + 1029) ≤ ck + 1030; omega) (by show 6 + (sk + 4104) ≤ sk + 4110; omega) (fun v9 h2 hp => ?_)
  obtain ⟨ev9, h1, f', hN1, hf', hv', h12⟩ := hp
  cases ev9
  obtain ⟨s', hD', hI', es, ep, hM'⟩ := law_A hM hd ho hN1 h12
  refine j_istore (L' := [(5, _), (4, _), (3, _), (2, _), (1, _), (0, _)]) dL_law_2058 rfl rfl ?_
  refine j_aload_n 2 dL_law_2060 rfl rfl ?_
  refine j_aload_n 0 dL_law_2061 rfl rfl ?_
  refine j_iload dL_law_2062 rfl ?_
  refine J_iconst dL_law_2064 ?_
  refine J_iadd dL_law_2065 ?_
  refine J_sld dL_law_2066 (by omega) ?_
  refine j_aload_n 0 dL_law_2067 rfl rfl ?_
  refine j_iload dL_law_2068 rfl ?_
  refine J_iconst dL_law_2070 ?_
  refine J_iadd dL_law_2071 ?_
  refine J_sld dL_law_2072 (by omega) ?_
  refine j_aload_n 0 dL_law_2073 rfl rfl ?_
  refine j_iload dL_law_2074 rfl ?_
  refine J_iconst dL_law_2076 ?_
  refine J_iadd dL_law_2077 ?_
  refine J_sld dL_law_2078 (by omega) ?_
  refine j_callV (ck' := ck + 1029) (sk' := sk + 4104) kL_231 cvX11_beamOf hM'.1.1 (toMN hZ2 (c_X11_beamOf hM' hZ2 hMI (sX_rg _ _) (sX_rg _ _) (sX_rg _ _))) rfl rfl rfl rfl rfl dL_law_2079 (by show 0 + (ck + 1029) ≤ ck + 1029; omega) (by show 0 + (sk + 4104) ≤ sk + 4104; omega) (fun v9 h3 hp => ?_) (fun E h' hp => by cases hp.1)
  obtain ⟨ev9, hN2⟩ := hp
  cases ev9
  obtain ⟨d3, mp3, p3, Z3, hM3, hZ3, hMI3, ht3, hD3, hd3, ho3, hf3⟩ := law_B hD' hd ho hf' es ep hN2
  have hE : evs s'.1 ≤ n + 1 := by rw [es]; omega
  refine j_istore (L' := [(6, _), (5, _), (4, _), (3, _), (2, _), (1, _), (0, _)]) dL_law_2082 rfl rfl ?_
  refine j_aload_n 2 dL_law_2084 rfl rfl ?_
  refine J_callV1 kL_150 cvX11_thrown hM3.1.1 (c_X11_thrown hM3 hZ3 hMI3) rfl rfl rfl rfl rfl dL_law_2085 rfl rfl ?_
  rw [ht3]
  refine j_iload dL_law_2088 rfl ?_
  refine j_icmp_eq 2095 dL_law_2090 (by decide) (fun _ => ?_) (fun c => absurd rfl c)
  refine j_iload dL_law_2095 rfl ?_
  refine J_if_ne 2112 dL_law_2097 (by decide) (fun c => ?_) (fun c => ?_) rg_t1
  · refine j_goto 3041 dL_law_2112 (by decide) ?_
    refine j_room (ck' := ck) (sk' := sk) (by omega) (by omega) ?_
    exact j_locR (kk _ ⟨d, s', Z, d3, mp3, p3, Z3, _, hD3, hZ, hI', hM3, hZ3, hMI3, hd3, ho3, hf3, hE⟩) (by repeat' (first | exact True.intro | refine And.intro rfl ?_))
  · refine j_aload_n 3 dL_law_2100 rfl rfl ?_
    refine J_iconst dL_law_2101 ?_
    refine j_lald dL_law_2102 hf3 (I_vpin (by decide) (by decide)) ?_
    refine j_iload dL_law_2103 rfl ?_
    refine j_i2l dL_law_2105 ?_
    refine J_lcmp0 dL_law_2106 (hv' c) ?_
    refine J_if_eq 2112 dL_law_2107 (by decide) (fun _ => ?_) (fun c => absurd rfl c) (by decide)
    refine j_goto 3041 dL_law_2112 (by decide) ?_
    refine j_room (ck' := ck) (sk' := sk) (by omega) (by omega) ?_
    exact j_locR (kk _ ⟨d, s', Z, d3, mp3, p3, Z3, _, hD3, hZ, hI', hM3, hZ3, hMI3, hd3, ho3, hf3, hE⟩) (by repeat' (first | exact True.intro | refine And.intro rfl ?_))
set_option maxRecDepth 100000 in
theorem lc_26 {l : Launch} {G : jG} {a a2 o b N ck sk : Nat} {xs : Nat → Int32} {i n : Int} {QF : jF} {h : jH} (hl0 : l.stackTraces = false) (hN : N ≤ 2560) (hi : 0 ≤ i ∧ i + 5 ≤ (N : Int)) (hn : n < 512) (H : LI G a a2 o n h) (kk : ∀ h', LI G a a2 o (n + 1) h' → J l G mL_law (QH G b N xs QF) ck sk 3041 [(4, vI i), (3, .ref o), (2, .ref a2), (1, .ref a), (0, .ref b)] [] h') : J l G mL_law (QH G b N xs QF) (ck + 1030) (sk + 4110) 2115 [(4, vI i), (3, .ref o), (2, .ref a2), (1, .ref a), (0, .ref b)] [] h := by
  obtain ⟨d, s, Z, d2, mp, p, Z2, f, hD, hZ, hI, hM, hZ2, hMI, hd, ho, hf, hev⟩ := H
  have hO : ∀ {P : Nat → OS} {p0 : OS} {h' : jH}, DN G a d h P p0 h' → h' o = some (aJ G 1 f) := fun hp => by obtain ⟨_, _, _, _, _, g⟩ := hp; exact (g o (fun z => (hd o z).2 rfl)).trans hf
  refine j_aload_n 1 dL_law_2115 rfl rfl ?_
  refine j_aload_n 0 dL_law_2116 rfl rfl ?_
  refine j_iload dL_law_2117 rfl ?_
  refine J_iconst dL_law_2119 ?_
  refine J_iadd dL_law_2120 ?_
  refine J_sld dL_law_2121 (by omega) ?_
  refine j_aload_n 0 dL_law_2122 rfl rfl ?_
  refine j_iload dL_law_2123 rfl ?_
  refine J_iconst dL_law_2125 ?_
  refine J_iadd dL_law_2126 ?_
  refine J_sld dL_law_2127 (by omega) ?_
  refine j_aload_n 3 dL_law_2128 rfl rfl ?_
  refine j_callSH (ck' := ck + 1029) (sk' := sk + 4104) kL_232 ceL_missing csL_missing (c_L_missing (f := f) hD.1 (toDN (c_X9_missing hl0 hD hI hZ (sX_rg _ _) (sX_rg _ _))) (hr1 rfl) (fun _ hp => hO hp)) (fun E h' hp => by cases hp.1) rfl rfl rfl rfl rfl dL_law_2129 (by show 1 + (ck + 1029) ≤ ck + 1030; omega) (by show 6 + (sk + 4104) ≤ sk + 4110; omega) (fun v9 h2 hp => ?_)
  obtain ⟨ev9, h1, f', hN1, hf', hv', h12⟩ := hp
  cases ev9
  obtain ⟨s', hD', hI', es, ep, hM'⟩ := law_A hM hd ho hN1 h12
  refine j_istore (L' := [(5, _), (4, _), (3, _), (2, _), (1, _), (0, _)]) dL_law_2132 rfl rfl ?_
  refine j_aload_n 2 dL_law_2134 rfl rfl ?_
  refine j_aload_n 0 dL_law_2135 rfl rfl ?_
  refine j_iload dL_law_2136 rfl ?_
  refine J_iconst dL_law_2138 ?_
  refine J_iadd dL_law_2139 ?_
  refine J_sld dL_law_2140 (by omega) ?_
  refine j_aload_n 0 dL_law_2141 rfl rfl ?_
  refine j_iload dL_law_2142 rfl ?_
  refine J_iconst dL_law_2144 ?_
  refine J_iadd dL_law_2145 ?_
  refine J_sld dL_law_2146 (by omega) ?_
  refine j_callV (ck' := ck + 1029) (sk' := sk + 4104) kL_234 cvX11_missing hM'.1.1 (toMN hZ2 (c_X11_missing hM' hZ2 hMI (sX_rg _ _) (sX_rg _ _))) rfl rfl rfl rfl rfl dL_law_2147 (by show 0 + (ck + 1029) ≤ ck + 1029; omega) (by show 0 + (sk + 4104) ≤ sk + 4104; omega) (fun v9 h3 hp => ?_) (fun E h' hp => by cases hp.1)
  obtain ⟨ev9, hN2⟩ := hp
  cases ev9
  obtain ⟨d3, mp3, p3, Z3, hM3, hZ3, hMI3, ht3, hD3, hd3, ho3, hf3⟩ := law_B hD' hd ho hf' es ep hN2
  have hE : evs s'.1 ≤ n + 1 := by rw [es]; omega
  refine j_istore (L' := [(6, _), (5, _), (4, _), (3, _), (2, _), (1, _), (0, _)]) dL_law_2150 rfl rfl ?_
  refine j_aload_n 2 dL_law_2152 rfl rfl ?_
  refine J_callV1 kL_150 cvX11_thrown hM3.1.1 (c_X11_thrown hM3 hZ3 hMI3) rfl rfl rfl rfl rfl dL_law_2153 rfl rfl ?_
  rw [ht3]
  refine j_iload dL_law_2156 rfl ?_
  refine j_icmp_eq 2163 dL_law_2158 (by decide) (fun _ => ?_) (fun c => absurd rfl c)
  refine j_iload dL_law_2163 rfl ?_
  refine J_if_ne 2180 dL_law_2165 (by decide) (fun c => ?_) (fun c => ?_) rg_t1
  · refine j_goto 3041 dL_law_2180 (by decide) ?_
    refine j_room (ck' := ck) (sk' := sk) (by omega) (by omega) ?_
    exact j_locR (kk _ ⟨d, s', Z, d3, mp3, p3, Z3, _, hD3, hZ, hI', hM3, hZ3, hMI3, hd3, ho3, hf3, hE⟩) (by repeat' (first | exact True.intro | refine And.intro rfl ?_))
  · refine j_aload_n 3 dL_law_2168 rfl rfl ?_
    refine J_iconst dL_law_2169 ?_
    refine j_lald dL_law_2170 hf3 (I_vpin (by decide) (by decide)) ?_
    refine j_iload dL_law_2171 rfl ?_
    refine j_i2l dL_law_2173 ?_
    refine J_lcmp0 dL_law_2174 (hv' c) ?_
    refine J_if_eq 2180 dL_law_2175 (by decide) (fun _ => ?_) (fun c => absurd rfl c) (by decide)
    refine j_goto 3041 dL_law_2180 (by decide) ?_
    refine j_room (ck' := ck) (sk' := sk) (by omega) (by omega) ?_
    exact j_locR (kk _ ⟨d, s', Z, d3, mp3, p3, Z3, _, hD3, hZ, hI', hM3, hZ3, hMI3, hd3, ho3, hf3, hE⟩) (by repeat' (first | exact True.intro | refine And.intro rfl ?_))
set_option maxRecDepth 100000 in
theorem lc_27 {l : Launch} {G : jG} {a a2 o b N ck sk : Nat} {xs : Nat → Int32} {i n : Int} {QF : jF} {h : jH} (hl0 : l.stackTraces = false) (hN : N ≤ 2560) (hi : 0 ≤ i ∧ i + 5 ≤ (N : Int)) (hn : n < 512) (H : LI G a a2 o n h) (kk : ∀ h', LI G a a2 o (n + 1) h' → J l G mL_law (QH G b N xs QF) ck sk 3041 [(4, vI i), (3, .ref o), (2, .ref a2), (1, .ref a), (0, .ref b)] [] h') : J l G mL_law (QH G b N xs QF) (ck + 1030) (sk + 4110) 2183 [(4, vI i), (3, .ref o), (2, .ref a2), (1, .ref a), (0, .ref b)] [] h := by
  obtain ⟨d, s, Z, d2, mp, p, Z2, f, hD, hZ, hI, hM, hZ2, hMI, hd, ho, hf, hev⟩ := H
  have hO : ∀ {P : Nat → OS} {p0 : OS} {h' : jH}, DN G a d h P p0 h' → h' o = some (aJ G 1 f) := fun hp => by obtain ⟨_, _, _, _, _, g⟩ := hp; exact (g o (fun z => (hd o z).2 rfl)).trans hf
  refine j_aload_n 1 dL_law_2183 rfl rfl ?_
  refine j_callV (ck' := ck + 1030) (sk' := sk + 4110) kL_235 cvX9_moments hD.1 (toDN (c_X9_moments hD hI hZ)) rfl rfl rfl rfl rfl dL_law_2184 (by show 0 + (ck + 1030) ≤ ck + 1030; omega) (by show 0 + (sk + 4110) ≤ sk + 4110; omega) (fun v9 h2 hp => ?_) (fun E h' hp => by cases hp.1)
  obtain ⟨ev9, hN1⟩ := hp
  cases ev9
  have hf' := hO hN1
  obtain ⟨s', hD', hI', es, ep, hM'⟩ := law_A hM hd ho hN1 (fun _ _ => rfl)
  refine j_aload_n 2 dL_law_2187 rfl rfl ?_
  refine j_callV (ck' := ck + 1030) (sk' := sk + 4110) kL_238 cvX11_moments hM'.1.1 (toMN hZ2 (c_X11_moments hM' hZ2 hMI)) rfl rfl rfl rfl rfl dL_law_2188 (by show 0 + (ck + 1030) ≤ ck + 1030; omega) (by show 0 + (sk + 4110) ≤ sk + 4110; omega) (fun v9 h3 hp => ?_) (fun E h' hp => by cases hp.1)
  obtain ⟨ev9, hN2⟩ := hp
  cases ev9
  obtain ⟨d3, mp3, p3, Z3, hM3, hZ3, hMI3, ht3, hD3, hd3, ho3, hf3⟩ := law_B hD' hd ho hf' es ep hN2
  have hE : evs s'.1 ≤ n + 1 := by rw [es]; omega
  refine j_icmp_eq 3041 dL_law_2191 (by decide) (fun _ => ?_) (fun c => absurd rfl c)
  refine j_room (ck' := ck) (sk' := sk) (by omega) (by omega) ?_
  exact j_locR (kk _ ⟨d, s', Z, d3, mp3, p3, Z3, _, hD3, hZ, hI', hM3, hZ3, hMI3, hd3, ho3, hf3, hE⟩) (by repeat' (first | exact True.intro | refine And.intro rfl ?_))
set_option maxRecDepth 100000 in
theorem lc_28 {l : Launch} {G : jG} {a a2 o b N ck sk : Nat} {xs : Nat → Int32} {i n : Int} {QF : jF} {h : jH} (hl0 : l.stackTraces = false) (hN : N ≤ 2560) (hi : 0 ≤ i ∧ i + 5 ≤ (N : Int)) (hn : n < 512) (H : LI G a a2 o n h) (kk : ∀ h', LI G a a2 o (n + 1) h' → J l G mL_law (QH G b N xs QF) ck sk 3041 [(4, vI i), (3, .ref o), (2, .ref a2), (1, .ref a), (0, .ref b)] [] h') : J l G mL_law (QH G b N xs QF) (ck + 1030) (sk + 4110) 2196 [(4, vI i), (3, .ref o), (2, .ref a2), (1, .ref a), (0, .ref b)] [] h := by
  obtain ⟨d, s, Z, d2, mp, p, Z2, f, hD, hZ, hI, hM, hZ2, hMI, hd, ho, hf, hev⟩ := H
  have hO : ∀ {P : Nat → OS} {p0 : OS} {h' : jH}, DN G a d h P p0 h' → h' o = some (aJ G 1 f) := fun hp => by obtain ⟨_, _, _, _, _, g⟩ := hp; exact (g o (fun z => (hd o z).2 rfl)).trans hf
  refine j_aload_n 1 dL_law_2196 rfl rfl ?_
  refine j_aload_n 0 dL_law_2197 rfl rfl ?_
  refine j_iload dL_law_2198 rfl ?_
  refine J_iconst dL_law_2200 ?_
  refine J_iadd dL_law_2201 ?_
  refine J_sld dL_law_2202 (by omega) ?_
  refine j_aload_n 3 dL_law_2203 rfl rfl ?_
  refine j_callSH (ck' := ck + 1029) (sk' := sk + 4104) kL_239 ceL_tickOf csL_tickOf (c_L_tickOf (f := f) hD.1 (toDN (c_X9_tickOf hl0 hD hI hZ (sX_rg _ _))) (hr1 rfl) (fun _ hp => hO hp)) (fun E h' hp => by cases hp.1) rfl rfl rfl rfl rfl dL_law_2204 (by show 1 + (ck + 1029) ≤ ck + 1030; omega) (by show 6 + (sk + 4104) ≤ sk + 4110; omega) (fun v9 h2 hp => ?_)
  obtain ⟨ev9, h1, f', hN1, hf', hv', h12⟩ := hp
  cases ev9
  obtain ⟨s', hD', hI', es, ep, hM'⟩ := law_A hM hd ho hN1 h12
  refine j_istore (L' := [(5, _), (4, _), (3, _), (2, _), (1, _), (0, _)]) dL_law_2207 rfl rfl ?_
  refine j_aload_n 2 dL_law_2209 rfl rfl ?_
  refine j_aload_n 0 dL_law_2210 rfl rfl ?_
  refine j_iload dL_law_2211 rfl ?_
  refine J_iconst dL_law_2213 ?_
  refine J_iadd dL_law_2214 ?_
  refine J_sld dL_law_2215 (by omega) ?_
  refine j_callV (ck' := ck + 1029) (sk' := sk + 4104) kL_241 cvX11_tickOf hM'.1.1 (toMN hZ2 (c_X11_tickOf hM' hZ2 hMI (sX_rg _ _))) rfl rfl rfl rfl rfl dL_law_2216 (by show 0 + (ck + 1029) ≤ ck + 1029; omega) (by show 0 + (sk + 4104) ≤ sk + 4104; omega) (fun v9 h3 hp => ?_) (fun E h' hp => by cases hp.1)
  obtain ⟨ev9, hN2⟩ := hp
  cases ev9
  obtain ⟨d3, mp3, p3, Z3, hM3, hZ3, hMI3, ht3, hD3, hd3, ho3, hf3⟩ := law_B hD' hd ho hf' es ep hN2
  have hE : evs s'.1 ≤ n + 1 := by rw [es]; omega
  refine j_istore (L' := [(6, _), (5, _), (4, _), (3, _), (2, _), (1, _), (0, _)]) dL_law_2219 rfl rfl ?_
  refine j_aload_n 2 dL_law_2221 rfl rfl ?_
  refine J_callV1 kL_150 cvX11_thrown hM3.1.1 (c_X11_thrown hM3 hZ3 hMI3) rfl rfl rfl rfl rfl dL_law_2222 rfl rfl ?_
  rw [ht3]
  refine j_iload dL_law_2225 rfl ?_
  refine j_icmp_eq 2232 dL_law_2227 (by decide) (fun _ => ?_) (fun c => absurd rfl c)
  refine j_iload dL_law_2232 rfl ?_
  refine J_if_ne 2249 dL_law_2234 (by decide) (fun c => ?_) (fun c => ?_) rg_t1
  · refine j_goto 3041 dL_law_2249 (by decide) ?_
    refine j_room (ck' := ck) (sk' := sk) (by omega) (by omega) ?_
    exact j_locR (kk _ ⟨d, s', Z, d3, mp3, p3, Z3, _, hD3, hZ, hI', hM3, hZ3, hMI3, hd3, ho3, hf3, hE⟩) (by repeat' (first | exact True.intro | refine And.intro rfl ?_))
  · refine j_aload_n 3 dL_law_2237 rfl rfl ?_
    refine J_iconst dL_law_2238 ?_
    refine j_lald dL_law_2239 hf3 (I_vpin (by decide) (by decide)) ?_
    refine j_iload dL_law_2240 rfl ?_
    refine j_i2l dL_law_2242 ?_
    refine J_lcmp0 dL_law_2243 (hv' c) ?_
    refine J_if_eq 2249 dL_law_2244 (by decide) (fun _ => ?_) (fun c => absurd rfl c) (by decide)
    refine j_goto 3041 dL_law_2249 (by decide) ?_
    refine j_room (ck' := ck) (sk' := sk) (by omega) (by omega) ?_
    exact j_locR (kk _ ⟨d, s', Z, d3, mp3, p3, Z3, _, hD3, hZ, hI', hM3, hZ3, hMI3, hd3, ho3, hf3, hE⟩) (by repeat' (first | exact True.intro | refine And.intro rfl ?_))
set_option maxRecDepth 100000 in
theorem lc_29 {l : Launch} {G : jG} {a a2 o b N ck sk : Nat} {xs : Nat → Int32} {i n : Int} {QF : jF} {h : jH} (hl0 : l.stackTraces = false) (hN : N ≤ 2560) (hi : 0 ≤ i ∧ i + 5 ≤ (N : Int)) (hn : n < 512) (H : LI G a a2 o n h) (kk : ∀ h', LI G a a2 o (n + 1) h' → J l G mL_law (QH G b N xs QF) ck sk 3041 [(4, vI i), (3, .ref o), (2, .ref a2), (1, .ref a), (0, .ref b)] [] h') : J l G mL_law (QH G b N xs QF) (ck + 1030) (sk + 4110) 2252 [(4, vI i), (3, .ref o), (2, .ref a2), (1, .ref a), (0, .ref b)] [] h := by
  obtain ⟨d, s, Z, d2, mp, p, Z2, f, hD, hZ, hI, hM, hZ2, hMI, hd, ho, hf, hev⟩ := H
  have hO : ∀ {P : Nat → OS} {p0 : OS} {h' : jH}, DN G a d h P p0 h' → h' o = some (aJ G 1 f) := fun hp => by obtain ⟨_, _, _, _, _, g⟩ := hp; exact (g o (fun z => (hd o z).2 rfl)).trans hf
  refine j_aload_n 1 dL_law_2252 rfl rfl ?_
  refine j_aload_n 0 dL_law_2253 rfl rfl ?_
  refine j_iload dL_law_2254 rfl ?_
  refine J_iconst dL_law_2256 ?_
  refine J_iadd dL_law_2257 ?_
  refine J_sld dL_law_2258 (by omega) ?_
  refine j_aload_n 0 dL_law_2259 rfl rfl ?_
  refine j_iload dL_law_2260 rfl ?_
  refine J_iconst dL_law_2262 ?_
  refine J_iadd dL_law_2263 ?_
  refine J_sld dL_law_2264 (by omega) ?_
  refine j_aload_n 3 dL_law_2265 rfl rfl ?_
  refine j_callSH (ck' := ck + 1029) (sk' := sk + 4104) kL_242 ceL_sounds csL_sounds (c_L_sounds (f := f) hD.1 (toDN (c_X9_sounds hl0 hD hI hZ (sX_rg _ _) (sX_rg _ _))) (hr1 rfl) (fun _ hp => hO hp)) (fun E h' hp => by cases hp.1) rfl rfl rfl rfl rfl dL_law_2266 (by show 1 + (ck + 1029) ≤ ck + 1030; omega) (by show 6 + (sk + 4104) ≤ sk + 4110; omega) (fun v9 h2 hp => ?_)
  obtain ⟨ev9, h1, f', hN1, hf', hv', h12⟩ := hp
  cases ev9
  obtain ⟨s', hD', hI', es, ep, hM'⟩ := law_A hM hd ho hN1 h12
  refine j_istore (L' := [(5, _), (4, _), (3, _), (2, _), (1, _), (0, _)]) dL_law_2269 rfl rfl ?_
  refine j_aload_n 2 dL_law_2271 rfl rfl ?_
  refine j_aload_n 0 dL_law_2272 rfl rfl ?_
  refine j_iload dL_law_2273 rfl ?_
  refine J_iconst dL_law_2275 ?_
  refine J_iadd dL_law_2276 ?_
  refine J_sld dL_law_2277 (by omega) ?_
  refine j_aload_n 0 dL_law_2278 rfl rfl ?_
  refine j_iload dL_law_2279 rfl ?_
  refine J_iconst dL_law_2281 ?_
  refine J_iadd dL_law_2282 ?_
  refine J_sld dL_law_2283 (by omega) ?_
  refine j_callV (ck' := ck + 1029) (sk' := sk + 4104) kL_244 cvX11_sounds hM'.1.1 (toMN hZ2 (c_X11_sounds hM' hZ2 hMI (sX_rg _ _) (sX_rg _ _))) rfl rfl rfl rfl rfl dL_law_2284 (by show 0 + (ck + 1029) ≤ ck + 1029; omega) (by show 0 + (sk + 4104) ≤ sk + 4104; omega) (fun v9 h3 hp => ?_) (fun E h' hp => by cases hp.1)
  obtain ⟨ev9, hN2⟩ := hp
  cases ev9
  obtain ⟨d3, mp3, p3, Z3, hM3, hZ3, hMI3, ht3, hD3, hd3, ho3, hf3⟩ := law_B hD' hd ho hf' es ep hN2
  have hE : evs s'.1 ≤ n + 1 := by rw [es]; omega
  refine j_istore (L' := [(6, _), (5, _), (4, _), (3, _), (2, _), (1, _), (0, _)]) dL_law_2287 rfl rfl ?_
  refine j_aload_n 2 dL_law_2289 rfl rfl ?_
  refine J_callV1 kL_150 cvX11_thrown hM3.1.1 (c_X11_thrown hM3 hZ3 hMI3) rfl rfl rfl rfl rfl dL_law_2290 rfl rfl ?_
  rw [ht3]
  refine j_iload dL_law_2293 rfl ?_
  refine j_icmp_eq 2300 dL_law_2295 (by decide) (fun _ => ?_) (fun c => absurd rfl c)
  refine j_iload dL_law_2300 rfl ?_
  refine J_if_ne 2317 dL_law_2302 (by decide) (fun c => ?_) (fun c => ?_) rg_t1
  · refine j_goto 3041 dL_law_2317 (by decide) ?_
    refine j_room (ck' := ck) (sk' := sk) (by omega) (by omega) ?_
    exact j_locR (kk _ ⟨d, s', Z, d3, mp3, p3, Z3, _, hD3, hZ, hI', hM3, hZ3, hMI3, hd3, ho3, hf3, hE⟩) (by repeat' (first | exact True.intro | refine And.intro rfl ?_))
  · refine j_aload_n 3 dL_law_2305 rfl rfl ?_
    refine J_iconst dL_law_2306 ?_
    refine j_lald dL_law_2307 hf3 (I_vpin (by decide) (by decide)) ?_
    refine j_iload dL_law_2308 rfl ?_
    refine j_i2l dL_law_2310 ?_
    refine J_lcmp0 dL_law_2311 (hv' c) ?_
    refine J_if_eq 2317 dL_law_2312 (by decide) (fun _ => ?_) (fun c => absurd rfl c) (by decide)
    refine j_goto 3041 dL_law_2317 (by decide) ?_
    refine j_room (ck' := ck) (sk' := sk) (by omega) (by omega) ?_
    exact j_locR (kk _ ⟨d, s', Z, d3, mp3, p3, Z3, _, hD3, hZ, hI', hM3, hZ3, hMI3, hd3, ho3, hf3, hE⟩) (by repeat' (first | exact True.intro | refine And.intro rfl ?_))
set_option maxRecDepth 100000 in
theorem lc_30 {l : Launch} {G : jG} {a a2 o b N ck sk : Nat} {xs : Nat → Int32} {i n : Int} {QF : jF} {h : jH} (hl0 : l.stackTraces = false) (hN : N ≤ 2560) (hi : 0 ≤ i ∧ i + 5 ≤ (N : Int)) (hn : n < 512) (H : LI G a a2 o n h) (kk : ∀ h', LI G a a2 o (n + 1) h' → J l G mL_law (QH G b N xs QF) ck sk 3041 [(4, vI i), (3, .ref o), (2, .ref a2), (1, .ref a), (0, .ref b)] [] h') : J l G mL_law (QH G b N xs QF) (ck + 1030) (sk + 4110) 2320 [(4, vI i), (3, .ref o), (2, .ref a2), (1, .ref a), (0, .ref b)] [] h := by
  obtain ⟨d, s, Z, d2, mp, p, Z2, f, hD, hZ, hI, hM, hZ2, hMI, hd, ho, hf, hev⟩ := H
  have hO : ∀ {P : Nat → OS} {p0 : OS} {h' : jH}, DN G a d h P p0 h' → h' o = some (aJ G 1 f) := fun hp => by obtain ⟨_, _, _, _, _, g⟩ := hp; exact (g o (fun z => (hd o z).2 rfl)).trans hf
  refine j_aload_n 1 dL_law_2320 rfl rfl ?_
  refine j_aload_n 0 dL_law_2321 rfl rfl ?_
  refine j_iload dL_law_2322 rfl ?_
  refine J_iconst dL_law_2324 ?_
  refine J_iadd dL_law_2325 ?_
  refine J_sld dL_law_2326 (by omega) ?_
  refine j_aload_n 3 dL_law_2327 rfl rfl ?_
  refine j_callSH (ck' := ck + 1029) (sk' := sk + 4104) kL_245 ceL_root csL_root (c_L_root (f := f) hD.1 (toDN (c_X9_root hl0 hD hI hZ (sX_rg _ _))) (hr1 rfl) (fun _ hp => hO hp)) (fun E h' hp => by cases hp.1) rfl rfl rfl rfl rfl dL_law_2328 (by show 1 + (ck + 1029) ≤ ck + 1030; omega) (by show 6 + (sk + 4104) ≤ sk + 4110; omega) (fun v9 h2 hp => ?_)
  obtain ⟨ev9, h1, f', hN1, hf', hv', h12⟩ := hp
  cases ev9
  obtain ⟨s', hD', hI', es, ep, hM'⟩ := law_A hM hd ho hN1 h12
  refine j_istore (L' := [(5, _), (4, _), (3, _), (2, _), (1, _), (0, _)]) dL_law_2331 rfl rfl ?_
  refine j_aload_n 2 dL_law_2333 rfl rfl ?_
  refine j_aload_n 0 dL_law_2334 rfl rfl ?_
  refine j_iload dL_law_2335 rfl ?_
  refine J_iconst dL_law_2337 ?_
  refine J_iadd dL_law_2338 ?_
  refine J_sld dL_law_2339 (by omega) ?_
  refine j_callV (ck' := ck + 1027) (sk' := sk + 4096) kL_247 cvX11_root hM'.1.1 (toMN hZ2 (c_X11_root hM' hZ2 hMI (sX_rg _ _))) rfl rfl rfl rfl rfl dL_law_2340 (by show 2 + (ck + 1027) ≤ ck + 1029; omega) (by show 8 + (sk + 4096) ≤ sk + 4104; omega) (fun v9 h3 hp => ?_) (fun E h' hp => by cases hp.1)
  obtain ⟨ev9, hN2⟩ := hp
  cases ev9
  obtain ⟨d3, mp3, p3, Z3, hM3, hZ3, hMI3, ht3, hD3, hd3, ho3, hf3⟩ := law_B hD' hd ho hf' es ep hN2
  have hE : evs s'.1 ≤ n + 1 := by rw [es]; omega
  refine j_istore (L' := [(6, _), (5, _), (4, _), (3, _), (2, _), (1, _), (0, _)]) dL_law_2343 rfl rfl ?_
  refine j_aload_n 2 dL_law_2345 rfl rfl ?_
  refine J_callV1 kL_150 cvX11_thrown hM3.1.1 (c_X11_thrown hM3 hZ3 hMI3) rfl rfl rfl rfl rfl dL_law_2346 rfl rfl ?_
  rw [ht3]
  refine j_iload dL_law_2349 rfl ?_
  refine j_icmp_eq 2356 dL_law_2351 (by decide) (fun _ => ?_) (fun c => absurd rfl c)
  refine j_iload dL_law_2356 rfl ?_
  refine J_if_ne 2373 dL_law_2358 (by decide) (fun c => ?_) (fun c => ?_) rg_t1
  · refine j_goto 3041 dL_law_2373 (by decide) ?_
    refine j_room (ck' := ck) (sk' := sk) (by omega) (by omega) ?_
    exact j_locR (kk _ ⟨d, s', Z, d3, mp3, p3, Z3, _, hD3, hZ, hI', hM3, hZ3, hMI3, hd3, ho3, hf3, hE⟩) (by repeat' (first | exact True.intro | refine And.intro rfl ?_))
  · refine j_aload_n 3 dL_law_2361 rfl rfl ?_
    refine J_iconst dL_law_2362 ?_
    refine j_lald dL_law_2363 hf3 (I_vpin (by decide) (by decide)) ?_
    refine j_iload dL_law_2364 rfl ?_
    refine j_i2l dL_law_2366 ?_
    refine J_lcmp0 dL_law_2367 (hv' c) ?_
    refine J_if_eq 2373 dL_law_2368 (by decide) (fun _ => ?_) (fun c => absurd rfl c) (by decide)
    refine j_goto 3041 dL_law_2373 (by decide) ?_
    refine j_room (ck' := ck) (sk' := sk) (by omega) (by omega) ?_
    exact j_locR (kk _ ⟨d, s', Z, d3, mp3, p3, Z3, _, hD3, hZ, hI', hM3, hZ3, hMI3, hd3, ho3, hf3, hE⟩) (by repeat' (first | exact True.intro | refine And.intro rfl ?_))
set_option maxRecDepth 100000 in
theorem lc_31 {l : Launch} {G : jG} {a a2 o b N ck sk : Nat} {xs : Nat → Int32} {i n : Int} {QF : jF} {h : jH} (hl0 : l.stackTraces = false) (hN : N ≤ 2560) (hi : 0 ≤ i ∧ i + 5 ≤ (N : Int)) (hn : n < 512) (H : LI G a a2 o n h) (kk : ∀ h', LI G a a2 o (n + 1) h' → J l G mL_law (QH G b N xs QF) ck sk 3041 [(4, vI i), (3, .ref o), (2, .ref a2), (1, .ref a), (0, .ref b)] [] h') : J l G mL_law (QH G b N xs QF) (ck + 1030) (sk + 4110) 2376 [(4, vI i), (3, .ref o), (2, .ref a2), (1, .ref a), (0, .ref b)] [] h := by
  obtain ⟨d, s, Z, d2, mp, p, Z2, f, hD, hZ, hI, hM, hZ2, hMI, hd, ho, hf, hev⟩ := H
  have hO : ∀ {P : Nat → OS} {p0 : OS} {h' : jH}, DN G a d h P p0 h' → h' o = some (aJ G 1 f) := fun hp => by obtain ⟨_, _, _, _, _, g⟩ := hp; exact (g o (fun z => (hd o z).2 rfl)).trans hf
  refine j_aload_n 1 dL_law_2376 rfl rfl ?_
  refine j_aload_n 0 dL_law_2377 rfl rfl ?_
  refine j_iload dL_law_2378 rfl ?_
  refine J_iconst dL_law_2380 ?_
  refine J_iadd dL_law_2381 ?_
  refine J_sld dL_law_2382 (by omega) ?_
  refine j_aload_n 3 dL_law_2383 rfl rfl ?_
  refine j_callSH (ck' := ck + 1029) (sk' := sk + 4104) kL_248 ceL_kind csL_kind (c_L_kind (f := f) hD.1 (toDN (c_X9_kind hl0 hD hI hZ (sX_rg _ _))) (hr1 rfl) (fun _ hp => hO hp)) (fun E h' hp => by cases hp.1) rfl rfl rfl rfl rfl dL_law_2384 (by show 1 + (ck + 1029) ≤ ck + 1030; omega) (by show 6 + (sk + 4104) ≤ sk + 4110; omega) (fun v9 h2 hp => ?_)
  obtain ⟨ev9, h1, f', hN1, hf', hv', h12⟩ := hp
  cases ev9
  obtain ⟨s', hD', hI', es, ep, hM'⟩ := law_A hM hd ho hN1 h12
  refine j_istore (L' := [(5, _), (4, _), (3, _), (2, _), (1, _), (0, _)]) dL_law_2387 rfl rfl ?_
  refine j_aload_n 2 dL_law_2389 rfl rfl ?_
  refine j_aload_n 0 dL_law_2390 rfl rfl ?_
  refine j_iload dL_law_2391 rfl ?_
  refine J_iconst dL_law_2393 ?_
  refine J_iadd dL_law_2394 ?_
  refine J_sld dL_law_2395 (by omega) ?_
  refine j_callV (ck' := ck + 1027) (sk' := sk + 4096) kL_250 cvX11_kind hM'.1.1 (toMN hZ2 (c_X11_kind hM' hZ2 hMI (sX_rg _ _))) rfl rfl rfl rfl rfl dL_law_2396 (by show 2 + (ck + 1027) ≤ ck + 1029; omega) (by show 8 + (sk + 4096) ≤ sk + 4104; omega) (fun v9 h3 hp => ?_) (fun E h' hp => by cases hp.1)
  obtain ⟨ev9, hN2⟩ := hp
  cases ev9
  obtain ⟨d3, mp3, p3, Z3, hM3, hZ3, hMI3, ht3, hD3, hd3, ho3, hf3⟩ := law_B hD' hd ho hf' es ep hN2
  have hE : evs s'.1 ≤ n + 1 := by rw [es]; omega
  refine j_istore (L' := [(6, _), (5, _), (4, _), (3, _), (2, _), (1, _), (0, _)]) dL_law_2399 rfl rfl ?_
  refine j_aload_n 2 dL_law_2401 rfl rfl ?_
  refine J_callV1 kL_150 cvX11_thrown hM3.1.1 (c_X11_thrown hM3 hZ3 hMI3) rfl rfl rfl rfl rfl dL_law_2402 rfl rfl ?_
  rw [ht3]
  refine j_iload dL_law_2405 rfl ?_
  refine j_icmp_eq 2412 dL_law_2407 (by decide) (fun _ => ?_) (fun c => absurd rfl c)
  refine j_iload dL_law_2412 rfl ?_
  refine J_if_ne 2429 dL_law_2414 (by decide) (fun c => ?_) (fun c => ?_) rg_t1
  · refine j_goto 3041 dL_law_2429 (by decide) ?_
    refine j_room (ck' := ck) (sk' := sk) (by omega) (by omega) ?_
    exact j_locR (kk _ ⟨d, s', Z, d3, mp3, p3, Z3, _, hD3, hZ, hI', hM3, hZ3, hMI3, hd3, ho3, hf3, hE⟩) (by repeat' (first | exact True.intro | refine And.intro rfl ?_))
  · refine j_aload_n 3 dL_law_2417 rfl rfl ?_
    refine J_iconst dL_law_2418 ?_
    refine j_lald dL_law_2419 hf3 (I_vpin (by decide) (by decide)) ?_
    refine j_iload dL_law_2420 rfl ?_
    refine j_i2l dL_law_2422 ?_
    refine J_lcmp0 dL_law_2423 (hv' c) ?_
    refine J_if_eq 2429 dL_law_2424 (by decide) (fun _ => ?_) (fun c => absurd rfl c) (by decide)
    refine j_goto 3041 dL_law_2429 (by decide) ?_
    refine j_room (ck' := ck) (sk' := sk) (by omega) (by omega) ?_
    exact j_locR (kk _ ⟨d, s', Z, d3, mp3, p3, Z3, _, hD3, hZ, hI', hM3, hZ3, hMI3, hd3, ho3, hf3, hE⟩) (by repeat' (first | exact True.intro | refine And.intro rfl ?_))
set_option maxRecDepth 100000 in
theorem lc_32 {l : Launch} {G : jG} {a a2 o b N ck sk : Nat} {xs : Nat → Int32} {i n : Int} {QF : jF} {h : jH} (hl0 : l.stackTraces = false) (hN : N ≤ 2560) (hi : 0 ≤ i ∧ i + 5 ≤ (N : Int)) (hn : n < 512) (H : LI G a a2 o n h) (kk : ∀ h', LI G a a2 o (n + 1) h' → J l G mL_law (QH G b N xs QF) ck sk 3041 [(4, vI i), (3, .ref o), (2, .ref a2), (1, .ref a), (0, .ref b)] [] h') : J l G mL_law (QH G b N xs QF) (ck + 1030) (sk + 4110) 2432 [(4, vI i), (3, .ref o), (2, .ref a2), (1, .ref a), (0, .ref b)] [] h := by
  obtain ⟨d, s, Z, d2, mp, p, Z2, f, hD, hZ, hI, hM, hZ2, hMI, hd, ho, hf, hev⟩ := H
  have hO : ∀ {P : Nat → OS} {p0 : OS} {h' : jH}, DN G a d h P p0 h' → h' o = some (aJ G 1 f) := fun hp => by obtain ⟨_, _, _, _, _, g⟩ := hp; exact (g o (fun z => (hd o z).2 rfl)).trans hf
  refine j_aload_n 1 dL_law_2432 rfl rfl ?_
  refine j_aload_n 0 dL_law_2433 rfl rfl ?_
  refine j_iload dL_law_2434 rfl ?_
  refine J_iconst dL_law_2436 ?_
  refine J_iadd dL_law_2437 ?_
  refine J_sld dL_law_2438 (by omega) ?_
  refine j_aload_n 3 dL_law_2439 rfl rfl ?_
  refine j_callSH (ck' := ck + 1029) (sk' := sk + 4104) kL_251 ceL_inversion csL_inversion (c_L_inversion (f := f) hD.1 (toDN (c_X9_inversion hl0 hD hI hZ (sX_rg _ _))) (hr1 rfl) (fun _ hp => hO hp)) (fun E h' hp => by cases hp.1) rfl rfl rfl rfl rfl dL_law_2440 (by show 1 + (ck + 1029) ≤ ck + 1030; omega) (by show 6 + (sk + 4104) ≤ sk + 4110; omega) (fun v9 h2 hp => ?_)
  obtain ⟨ev9, h1, f', hN1, hf', hv', h12⟩ := hp
  cases ev9
  obtain ⟨s', hD', hI', es, ep, hM'⟩ := law_A hM hd ho hN1 h12
  refine j_istore (L' := [(5, _), (4, _), (3, _), (2, _), (1, _), (0, _)]) dL_law_2443 rfl rfl ?_
  refine j_aload_n 2 dL_law_2445 rfl rfl ?_
  refine j_aload_n 0 dL_law_2446 rfl rfl ?_
  refine j_iload dL_law_2447 rfl ?_
  refine J_iconst dL_law_2449 ?_
  refine J_iadd dL_law_2450 ?_
  refine J_sld dL_law_2451 (by omega) ?_
  refine j_callV (ck' := ck + 1027) (sk' := sk + 4096) kL_253 cvX11_inversion hM'.1.1 (toMN hZ2 (c_X11_inversion hM' hZ2 hMI (sX_rg _ _))) rfl rfl rfl rfl rfl dL_law_2452 (by show 2 + (ck + 1027) ≤ ck + 1029; omega) (by show 8 + (sk + 4096) ≤ sk + 4104; omega) (fun v9 h3 hp => ?_) (fun E h' hp => by cases hp.1)
  obtain ⟨ev9, hN2⟩ := hp
  cases ev9
  obtain ⟨d3, mp3, p3, Z3, hM3, hZ3, hMI3, ht3, hD3, hd3, ho3, hf3⟩ := law_B hD' hd ho hf' es ep hN2
  have hE : evs s'.1 ≤ n + 1 := by rw [es]; omega
  refine j_istore (L' := [(6, _), (5, _), (4, _), (3, _), (2, _), (1, _), (0, _)]) dL_law_2455 rfl rfl ?_
  refine j_aload_n 2 dL_law_2457 rfl rfl ?_
  refine J_callV1 kL_150 cvX11_thrown hM3.1.1 (c_X11_thrown hM3 hZ3 hMI3) rfl rfl rfl rfl rfl dL_law_2458 rfl rfl ?_
  rw [ht3]
  refine j_iload dL_law_2461 rfl ?_
  refine j_icmp_eq 2468 dL_law_2463 (by decide) (fun _ => ?_) (fun c => absurd rfl c)
  refine j_iload dL_law_2468 rfl ?_
  refine J_if_ne 2485 dL_law_2470 (by decide) (fun c => ?_) (fun c => ?_) rg_t1
  · refine j_goto 3041 dL_law_2485 (by decide) ?_
    refine j_room (ck' := ck) (sk' := sk) (by omega) (by omega) ?_
    exact j_locR (kk _ ⟨d, s', Z, d3, mp3, p3, Z3, _, hD3, hZ, hI', hM3, hZ3, hMI3, hd3, ho3, hf3, hE⟩) (by repeat' (first | exact True.intro | refine And.intro rfl ?_))
  · refine j_aload_n 3 dL_law_2473 rfl rfl ?_
    refine J_iconst dL_law_2474 ?_
    refine j_lald dL_law_2475 hf3 (I_vpin (by decide) (by decide)) ?_
    refine j_iload dL_law_2476 rfl ?_
    refine j_i2l dL_law_2478 ?_
    refine J_lcmp0 dL_law_2479 (hv' c) ?_
    refine J_if_eq 2485 dL_law_2480 (by decide) (fun _ => ?_) (fun c => absurd rfl c) (by decide)
    refine j_goto 3041 dL_law_2485 (by decide) ?_
    refine j_room (ck' := ck) (sk' := sk) (by omega) (by omega) ?_
    exact j_locR (kk _ ⟨d, s', Z, d3, mp3, p3, Z3, _, hD3, hZ, hI', hM3, hZ3, hMI3, hd3, ho3, hf3, hE⟩) (by repeat' (first | exact True.intro | refine And.intro rfl ?_))
