theorem wq_X1_readHead {post : Bd → Tp → Prop} {s0 : Bd} {s1 : Tp} {R W N : Int} (h1778 : bi (R) (W) s0) (h1779 : tj (N) s1) (k : ∀ (ua : Bd) (ub : Tp) (R2 W2 : Int), bi (R2) (W2) ua → tj (N) ub → post ua ub) : wp_X1_readHead post s0 s1 := by
  unfold wp_X1_readHead
  have := h1778.1
  have := h1778.2.1
  have := h1778.2.2.1
  have := h1778.2.2.2.1
  have := h1778.2.2.2.2.2.2.2.2.2
  have := h1779.1
  have := h1779.2.1
  have := h1779.2.2
  refine wq_X5_takeThisWord h1779 (fun u_2 q1780 q1781 => ?_)
  have := q1780.1
  have := q1780.2.1
  refine wq_X5_takeNumber q1780 (fun r_3 u_4 q1782 q1783 q1784 => ?_)
  have := q1782.1
  have := q1782.2.1
  try simp only [li_1, li_6] at q1783
  try simp only [li_1, li_6] at q1784
  refine ⟨fun c1785 => ?_, fun c1786 => ?_⟩
  · replace c1785 := q_le c1785
    rw [li_0] at c1785
    refine wq_X5_takeNumber q1782 (fun r_6 u_7 q1787 q1788 q1789 => ?_)
    have := q1787.1
    have := q1787.2.1
    try simp only [li_1, li_0] at q1788
    try simp only [li_1, li_0] at q1789
    refine wq_X5_takeThisWord q1787 (fun u_9 q1790 q1791 => ?_)
    have := q1790.1
    have := q1790.2.1
    refine wq_X5_takeNumber q1790 (fun r_10 u_11 q1792 q1793 q1794 => ?_)
    have := q1792.1
    have := q1792.2.1
    try simp only [li_1, li_99] at q1793
    try simp only [li_1, li_99] at q1794
    refine wq_X5_isSound (fun r_12 q1795 => ?_)
    refine ⟨fun c1796 => ?_, fun c1797 => ?_⟩
    · replace c1796 := q_eq c1796
      rw [li_0] at c1796
      exact k _ _ (R) (W) h1778 q1792
    · replace c1797 := q_neq c1797
      rw [li_0] at c1797
      have := hd_b (a := r_3) (b := r_6) (by omega) (by omega)
      have p1798 : (r_3).toInt = (r_3).toInt := by omega
      have p1799 : (r_6).toInt = (r_6).toInt := by omega
      have p1800 : 0 ≤ (s0.1 3).toInt ∧ (s0.1 3).toInt ≤ 4 := by omega
      have p1801 : 0 ≤ (r_3).toInt ∧ (r_3).toInt ≤ 6 ∧ 0 ≤ (r_6).toInt ∧ (r_6).toInt ≤ 10 ∧ 0 ≤ (r_3).toInt * (r_6).toInt ∧ (r_3).toInt * (r_6).toInt ≤ 40 := by omega
      have p1802 : ar 4 (0) (40) (s0.2.1 1) := h1778.2.2.2.2.1
      have p1803 : ar 40 (0) (3) (s0.2.1 3) := h1778.2.2.2.2.2.1
      have p1804 : ar 40 (0) (39) (s0.2.1 4) := h1778.2.2.2.2.2.2.1
      have p1805 : ar 40 (0) (39) (s0.2.1 5) := h1778.2.2.2.2.2.2.2.1
      have p1806 : ar 40 (0) (39) (s0.2.1 6) := h1778.2.2.2.2.2.2.2.2.1
      have p1807 : s0.2.2.2.1 ≤ 6400 := by omega
      have B1808 : bi ((r_3).toInt) ((r_6).toInt) ((va_up (va_up (va_up s0.1 0 r_3) 1 r_6) 2 r_10), s0.2.1, s0.2.2.1, s0.2.2.2.1, s0.2.2.2.2) := ⟨p1798, p1799, p1800, p1801, p1802, p1803, p1804, p1805, p1806, p1807⟩
      exact k _ _ ((r_3).toInt) ((r_6).toInt) B1808 q1792
  · replace c1786 := q_nle c1786
    rw [li_0] at c1786
    refine ⟨(z_ne (by have := li_0; omega)), ?_⟩
    refine wq_X5_takeNumber q1782 (fun r_16 u_17 q1809 q1810 q1811 => ?_)
    have := q1809.1
    have := q1809.2.1
    try simp only [li_1] at q1810
    have e1812 := tq_ite (a := (40 / r_3)) (b := (10 : Int32)) (x := (40 / r_3)) (y := (10 : Int32))
    simp only [li_10] at e1812
    try simp only [li_1] at q1811
    refine wq_X5_takeThisWord q1809 (fun u_19 q1813 q1814 => ?_)
    have := q1813.1
    have := q1813.2.1
    refine wq_X5_takeNumber q1813 (fun r_20 u_21 q1815 q1816 q1817 => ?_)
    have := q1815.1
    have := q1815.2.1
    try simp only [li_1, li_99] at q1816
    try simp only [li_1, li_99] at q1817
    refine wq_X5_isSound (fun r_22 q1818 => ?_)
    refine ⟨fun c1819 => ?_, fun c1820 => ?_⟩
    · replace c1819 := q_eq c1819
      rw [li_0] at c1819
      exact k _ _ (R) (W) h1778 q1815
    · replace c1820 := q_neq c1820
      rw [li_0] at c1820
      have := hd_b (a := r_3) (b := r_16) (by omega) (by omega)
      have p1821 : (r_3).toInt = (r_3).toInt := by omega
      have p1822 : (r_16).toInt = (r_16).toInt := by omega
      have p1823 : 0 ≤ (s0.1 3).toInt ∧ (s0.1 3).toInt ≤ 4 := by omega
      have p1824 : 0 ≤ (r_3).toInt ∧ (r_3).toInt ≤ 6 ∧ 0 ≤ (r_16).toInt ∧ (r_16).toInt ≤ 10 ∧ 0 ≤ (r_3).toInt * (r_16).toInt ∧ (r_3).toInt * (r_16).toInt ≤ 40 := by omega
      have p1825 : ar 4 (0) (40) (s0.2.1 1) := h1778.2.2.2.2.1
      have p1826 : ar 40 (0) (3) (s0.2.1 3) := h1778.2.2.2.2.2.1
      have p1827 : ar 40 (0) (39) (s0.2.1 4) := h1778.2.2.2.2.2.2.1
      have p1828 : ar 40 (0) (39) (s0.2.1 5) := h1778.2.2.2.2.2.2.2.1
      have p1829 : ar 40 (0) (39) (s0.2.1 6) := h1778.2.2.2.2.2.2.2.2.1
      have p1830 : s0.2.2.2.1 ≤ 6400 := by omega
      have B1831 : bi ((r_3).toInt) ((r_16).toInt) ((va_up (va_up (va_up s0.1 0 r_3) 1 r_16) 2 r_20), s0.2.1, s0.2.2.1, s0.2.2.2.1, s0.2.2.2.2) := ⟨p1821, p1822, p1823, p1824, p1825, p1826, p1827, p1828, p1829, p1830⟩
      exact k _ _ ((r_3).toInt) ((r_16).toInt) B1831 q1815
theorem wq_X1_readDrum {post : Bd → Tp → Prop} {s0 : Bd} {s1 : Tp} {R W N : Int} (h1832 : bi (R) (W) s0) (h1833 : tj (N) s1) (k : ∀ (ua : Bd) (ub : Tp), bi (R) (W) ua → tk (N) ub → post ua ub) : wp_X1_readDrum post s0 s1 := by
  unfold wp_X1_readDrum
  have := h1832.1
  have := h1832.2.1
  have := h1832.2.2.1
  have := h1832.2.2.2.1
  have := h1832.2.2.2.2.2.2.2.2.2
  have := h1833.1
  have := h1833.2.1
  have := h1833.2.2
  refine wq_X5_takeNumber h1833 (fun r_1 u_2 q1834 q1835 q1836 => ?_)
  have := q1834.1
  have := q1834.2.1
  try simp only [li_1, li_9] at q1835
  try simp only [li_1, li_9] at q1836
  refine wq_X5_takeQuoted q1834 (fun u_4 q1837 q1838 q1839 => ?_)
  have := q1837.1
  have := q1837.2.1
  refine wq_X5_isSound (fun r_5 q1840 => ?_)
  refine ⟨fun c1841 => ?_, fun c1842 => ?_⟩
  · replace c1841 := q_eq c1841
    rw [li_0] at c1841
    exact k _ _ h1832 q1837
  · replace c1842 := q_neq c1842
    rw [li_0] at c1842
    have p1843 : (u_4.1 0).toInt = N := by omega
    have p1844 : 0 ≤ N ∧ N ≤ 400 := by omega
    have B1845 : tz (N) u_4 := ⟨p1843, p1844⟩
    have p1846 : 0 ≤ (u_4.1 4).toInt := by omega
    refine wq_X0_addDrum h1832 B1845 p1846 (fun u_9 q1847 => ?_)
    have := q1847.1
    have := q1847.2.1
    have := q1847.2.2.1
    have := q1847.2.2.2.2.2.2.2.2.2
    exact k _ _ q1847 q1837
theorem wq_X1_readWorn {post : Bd → Tp → Prop} {s0 : Bd} {s1 : Tp} {R W N : Int} (h1848 : bi (R) (W) s0) (h1849 : tj (N) s1) (k : ∀ (ua : Bd) (ub : Tp), bi (R) (W) ua → tk (N) ub → post ua ub) : wp_X1_readWorn post s0 s1 := by
  unfold wp_X1_readWorn
  have := h1848.1
  have := h1848.2.1
  have := h1848.2.2.1
  have := h1848.2.2.2.1
  have := h1848.2.2.2.2.2.2.2.2.2
  have := h1849.1
  have := h1849.2.1
  have := h1849.2.2
  refine wq_X0_cells h1848 (fun r_1 q1850 => ?_)
  refine wq_X5_takeNumber h1849 (fun r_3 u_4 q1851 q1852 q1853 => ?_)
  have := q1851.1
  have := q1851.2.1
  try simp only [li_0] at q1852
  have e1854 := tq_subr li_1 r_1
  try rw [Int.emod_eq_of_lt (show 0 ≤ (r_1).toInt - 1 + 2147483648 by omega) (show (r_1).toInt - 1 + 2147483648 < 4294967296 by omega)] at e1854
  try simp only [li_0] at q1853
  have p1855 : 0 ≤ (r_3).toInt ∧ (r_3).toInt < 40 := by omega
  refine wq_X0_flapsOf h1848 p1855 (fun r_5 q1856 => ?_)
  refine wq_X5_takeNumber q1851 (fun r_7 u_8 q1857 q1858 q1859 => ?_)
  have := q1857.1
  have := q1857.2.1
  try simp only [li_1] at q1858
  have e1860 := tq_subr li_1 r_5
  try rw [Int.emod_eq_of_lt (show 0 ≤ (r_5).toInt - 1 + 2147483648 by omega) (show (r_5).toInt - 1 + 2147483648 < 4294967296 by omega)] at e1860
  try simp only [li_1] at q1859
  refine wq_X5_isSound (fun r_9 q1861 => ?_)
  refine ⟨fun c1862 => ?_, fun c1863 => ?_⟩
  · replace c1862 := q_eq c1862
    rw [li_0] at c1862
    refine wq_X5_isSound (fun r_12 q1864 => ?_)
    refine ⟨fun c1865 => ?_, fun c1866 => ?_⟩
    · replace c1865 := q_eq c1865
      rw [li_0] at c1865
      have p1867 : (u_8.1 0).toInt = N := by omega
      have p1868 : 0 ≤ (u_8.1 1).toInt ∧ (u_8.1 1).toInt ≤ N + 1 ∧ 0 ≤ (u_8.1 2).toInt ∧ (u_8.1 2).toInt ≤ (u_8.1 1).toInt ∧ ((u_8.1 5).toInt ≠ 0 ∨ (u_8.1 1).toInt ≤ N) ∧ 0 ≤ (u_8.1 5).toInt ∧ (u_8.1 5).toInt ≤ 5000 := by omega
      have p1869 : 0 ≤ N ∧ N ≤ 400 := by omega
      have B1870 : tk (N) u_8 := ⟨p1867, p1868, p1869⟩
      exact k _ _ h1848 B1870
    · replace c1866 := q_neq c1866
      rw [li_0] at c1866
      have p1871 : 0 ≤ (r_3).toInt ∧ (r_3).toInt < 40 := by omega
      refine wq_X0_wearFlap h1848 p1871 (fun u_16 q1872 => ?_)
      have := q1872.1
      have := q1872.2.1
      have := q1872.2.2.1
      have := q1872.2.2.2.2.2.2.2.2.2
      have p1873 : (u_8.1 0).toInt = N := by omega
      have p1874 : 0 ≤ (u_8.1 1).toInt ∧ (u_8.1 1).toInt ≤ N + 1 ∧ 0 ≤ (u_8.1 2).toInt ∧ (u_8.1 2).toInt ≤ (u_8.1 1).toInt ∧ ((u_8.1 5).toInt ≠ 0 ∨ (u_8.1 1).toInt ≤ N) ∧ 0 ≤ (u_8.1 5).toInt ∧ (u_8.1 5).toInt ≤ 5000 := by omega
      have p1875 : 0 ≤ N ∧ N ≤ 400 := by omega
      have B1876 : tk (N) u_8 := ⟨p1873, p1874, p1875⟩
      exact k _ _ q1872 B1876
  · replace c1863 := q_neq c1863
    rw [li_0] at c1863
    have p1877 : 0 ≤ (r_3).toInt ∧ (r_3).toInt < 40 := by omega
    refine wq_X0_isWorn h1848 p1877 (fun r_17 q1878 => ?_)
    refine ⟨fun c1879 => ?_, fun c1880 => ?_⟩
    · replace c1879 := q_eq c1879
      rw [li_0] at c1879
      refine wq_X5_isSound (fun r_20 q1881 => ?_)
      refine ⟨fun c1882 => ?_, fun c1883 => ?_⟩
      · replace c1882 := q_eq c1882
        rw [li_0] at c1882
        have p1884 : (u_8.1 0).toInt = N := by omega
        have p1885 : 0 ≤ (u_8.1 1).toInt ∧ (u_8.1 1).toInt ≤ N + 1 ∧ 0 ≤ (u_8.1 2).toInt ∧ (u_8.1 2).toInt ≤ (u_8.1 1).toInt ∧ ((u_8.1 5).toInt ≠ 0 ∨ (u_8.1 1).toInt ≤ N) ∧ 0 ≤ (u_8.1 5).toInt ∧ (u_8.1 5).toInt ≤ 5000 := by omega
        have p1886 : 0 ≤ N ∧ N ≤ 400 := by omega
        have B1887 : tk (N) u_8 := ⟨p1884, p1885, p1886⟩
        exact k _ _ h1848 B1887
      · replace c1883 := q_neq c1883
        rw [li_0] at c1883
        have p1888 : 0 ≤ (r_3).toInt ∧ (r_3).toInt < 40 := by omega
        refine wq_X0_wearFlap h1848 p1888 (fun u_24 q1889 => ?_)
        have := q1889.1
        have := q1889.2.1
        have := q1889.2.2.1
        have := q1889.2.2.2.2.2.2.2.2.2
        have p1890 : (u_8.1 0).toInt = N := by omega
        have p1891 : 0 ≤ (u_8.1 1).toInt ∧ (u_8.1 1).toInt ≤ N + 1 ∧ 0 ≤ (u_8.1 2).toInt ∧ (u_8.1 2).toInt ≤ (u_8.1 1).toInt ∧ ((u_8.1 5).toInt ≠ 0 ∨ (u_8.1 1).toInt ≤ N) ∧ 0 ≤ (u_8.1 5).toInt ∧ (u_8.1 5).toInt ≤ 5000 := by omega
        have p1892 : 0 ≤ N ∧ N ≤ 400 := by omega
        have B1893 : tk (N) u_8 := ⟨p1890, p1891, p1892⟩
        exact k _ _ q1889 B1893
    · replace c1880 := q_neq c1880
      rw [li_0] at c1880
      have p1894 : (u_8.1 0).toInt = N := by omega
      have p1895 : 0 ≤ (u_8.1 1).toInt ∧ (u_8.1 1).toInt ≤ N + 1 ∧ 0 ≤ (u_8.1 2).toInt ∧ (u_8.1 2).toInt ≤ (u_8.1 1).toInt ∧ ((u_8.1 5).toInt ≠ 0 ∨ (u_8.1 1).toInt ≤ N) ∧ 0 ≤ (u_8.1 5).toInt ∧ (u_8.1 5).toInt ≤ 5000 := by omega
      have p1896 : 0 ≤ N ∧ N ≤ 400 := by omega
      have B1897 : tk (N) u_8 := ⟨p1894, p1895, p1896⟩
      have p1898 : 0 ≤ (u_8.1 2).toInt ∧ (u_8.1 2).toInt ≤ 500 ∧ 1 ≤ ((2 : Int32)).toInt ∧ ((2 : Int32)).toInt ≤ 4 := by (have := li_2; omega)
      refine wq_X5_blame B1897 p1898 (fun u_26 q1899 q1900 q1901 q1902 q1903 q1904 => ?_)
      have := q1899.1
      have := q1899.2.1
      refine wq_X5_isSound (fun r_27 q1905 => ?_)
      refine ⟨fun c1906 => ?_, fun c1907 => ?_⟩
      · replace c1906 := q_eq c1906
        rw [li_0] at c1906
        exact k _ _ h1848 q1899
      · replace c1907 := q_neq c1907
        rw [li_0] at c1907
        have p1908 : 0 ≤ (r_3).toInt ∧ (r_3).toInt < 40 := by omega
        refine wq_X0_wearFlap h1848 p1908 (fun u_31 q1909 => ?_)
        have := q1909.1
        have := q1909.2.1
        have := q1909.2.2.1
        have := q1909.2.2.2.2.2.2.2.2.2
        exact k _ _ q1909 q1899
theorem wq_X1_readRow {post : Bd → Tp → Prop} {s0 : Bd} {s1 : Tp} {R W N : Int} (h1910 : bi (R) (W) s0) (h1911 : tj (N) s1) (k : ∀ (ua : Bd) (ub : Tp), bi (R) (W) ua → tk (N) ub → post ua ub) : wp_X1_readRow post s0 s1 := by
  unfold wp_X1_readRow
  have := h1910.1
  have := h1910.2.1
  have := h1910.2.2.1
  have := h1910.2.2.2.1
  have := h1910.2.2.2.2.2.2.2.2.2
  have := h1911.1
  have := h1911.2.1
  have := h1911.2.2
  refine wq_X5_takeNumber h1911 (fun r_1 u_2 q1912 q1913 q1914 => ?_)
  have := q1912.1
  have := q1912.2.1
  try simp only [li_0] at q1913
  have e1915 := tq_subr li_1 (s0.1 0)
  try rw [Int.emod_eq_of_lt (show 0 ≤ (s0.1 0).toInt - 1 + 2147483648 by omega) (show (s0.1 0).toInt - 1 + 2147483648 < 4294967296 by omega)] at e1915
  try simp only [li_0] at q1914
  refine wq_X5_takeQuoted q1912 (fun u_4 q1916 q1917 q1918 => ?_)
  have := q1916.1
  have := q1916.2.1
  refine wq_X5_isSound (fun r_5 q1919 => ?_)
  refine ⟨fun c1920 => ?_, fun c1921 => ?_⟩
  · replace c1920 := q_eq c1920
    rw [li_0] at c1920
    exact k _ _ h1910 q1916
  · replace c1921 := q_neq c1921
    rw [li_0] at c1921
    have p1922 : (u_4.1 0).toInt = N := by omega
    have p1923 : 0 ≤ N ∧ N ≤ 400 := by omega
    have B1924 : tz (N) u_4 := ⟨p1922, p1923⟩
    have p1925 : 0 ≤ (r_1).toInt ∧ (r_1).toInt < R := by omega
    refine wq_X0_showSigns h1910 B1924 p1925 (fun u_9 q1926 => ?_)
    have := q1926.1
    have := q1926.2.1
    have := q1926.2.2.1
    have := q1926.2.2.2.2.2.2.2.2.2
    exact k _ _ q1926 q1916
theorem wq_X1_readLose {post : Bd → Tp → Prop} {s0 : Bd} {s1 : Tp} {R W N : Int} (h1927 : bi (R) (W) s0) (h1928 : tj (N) s1) (k : ∀ (ua : Bd) (ub : Tp), bi (R) (W) ua → tk (N) ub → post ua ub) : wp_X1_readLose post s0 s1 := by
  unfold wp_X1_readLose
  have := h1927.1
  have := h1927.2.1
  have := h1927.2.2.1
  have := h1927.2.2.2.1
  have := h1927.2.2.2.2.2.2.2.2.2
  have := h1928.1
  have := h1928.2.1
  have := h1928.2.2
  refine wq_X0_cells h1927 (fun r_1 q1929 => ?_)
  refine wq_X5_takeNumber h1928 (fun r_3 u_4 q1930 q1931 q1932 => ?_)
  have := q1930.1
  have := q1930.2.1
  try simp only [li_0] at q1931
  have e1933 := tq_subr li_1 r_1
  try rw [Int.emod_eq_of_lt (show 0 ≤ (r_1).toInt - 1 + 2147483648 by omega) (show (r_1).toInt - 1 + 2147483648 < 4294967296 by omega)] at e1933
  try simp only [li_0] at q1932
  refine wq_X5_takeNumber q1930 (fun r_5 u_6 q1934 q1935 q1936 => ?_)
  have := q1934.1
  have := q1934.2.1
  try simp only [li_0, li_9] at q1935
  try simp only [li_0, li_9] at q1936
  refine wq_X5_isSound (fun r_7 q1937 => ?_)
  refine ⟨fun c1938 => ?_, fun c1939 => ?_⟩
  · replace c1938 := q_eq c1938
    rw [li_0] at c1938
    have p1940 : (u_6.1 0).toInt = N := by omega
    have p1941 : 0 ≤ (u_6.1 1).toInt ∧ (u_6.1 1).toInt ≤ N + 1 ∧ 0 ≤ (u_6.1 2).toInt ∧ (u_6.1 2).toInt ≤ (u_6.1 1).toInt ∧ ((u_6.1 5).toInt ≠ 0 ∨ (u_6.1 1).toInt ≤ N) ∧ 0 ≤ (u_6.1 5).toInt ∧ (u_6.1 5).toInt ≤ 5000 := by omega
    have p1942 : 0 ≤ N ∧ N ≤ 400 := by omega
    have B1943 : tk (N) u_6 := ⟨p1940, p1941, p1942⟩
    exact k _ _ h1927 B1943
  · replace c1939 := q_neq c1939
    rw [li_0] at c1939
    refine wq_X0_setLost h1927 (fun u_11 q1944 => ?_)
    have := q1944.1
    have := q1944.2.1
    have := q1944.2.2.1
    have := q1944.2.2.2.2.2.2.2.2.2
    have p1945 : (u_6.1 0).toInt = N := by omega
    have p1946 : 0 ≤ (u_6.1 1).toInt ∧ (u_6.1 1).toInt ≤ N + 1 ∧ 0 ≤ (u_6.1 2).toInt ∧ (u_6.1 2).toInt ≤ (u_6.1 1).toInt ∧ ((u_6.1 5).toInt ≠ 0 ∨ (u_6.1 1).toInt ≤ N) ∧ 0 ≤ (u_6.1 5).toInt ∧ (u_6.1 5).toInt ≤ 5000 := by omega
    have p1947 : 0 ≤ N ∧ N ≤ 400 := by omega
    have B1948 : tk (N) u_6 := ⟨p1945, p1946, p1947⟩
    exact k _ _ q1944 B1948
theorem wq_X1_readCells_L38 {post : Bd → Tp → Prop} {e66 : Bd → Tp → Int32 → Int32 → Int32 → Int32 → Int32 → Prop} {R W N : Int} (ke66 : ∀ (t0 : Bd) (t1 : Tp) (z2 : Int32) (z3 : Int32) (z4 : Int32) (z5 : Int32) (z6 : Int32), bi (R) (W) t0 → tk (N) t1 → 0 ≤ (z6).toInt ∧ (z6).toInt ≤ (z4).toInt + 1 ∧ (z4).toInt ≤ 39 → 0 ≤ (z5).toInt ∧ (z5).toInt ≤ 3 → e66 t0 t1 z2 z3 z4 z5 z6) : ∀ (n : Nat) (t0 : Bd) (t1 : Tp) (z2 : Int32) (z3 : Int32) (z4 : Int32) (z5 : Int32) (z6 : Int32), bi (R) (W) t0 → tk (N) t1 → 0 ≤ (z6).toInt ∧ (z6).toInt ≤ (z4).toInt + 1 ∧ (z4).toInt ≤ 39 → 0 ≤ (z5).toInt ∧ (z5).toInt ≤ 3 → (z4).toInt - (z6).toInt + 1 < (n : Int) → wp_X1_readCells_L38 post e66 n t0 t1 z2 z3 z4 z5 z6 := by
  intro n
  induction n with
  | zero =>
    intro t0 t1 z2 z3 z4 z5 z6 i1949 i1950 i1951 i1952 i1953
    have := i1949.1
    have := i1949.2.1
    have := i1949.2.2.1
    have := i1949.2.2.2.1
    have := i1949.2.2.2.2.2.2.2.2.2
    have := i1950.1
    have := i1950.2.1
    have := i1950.2.2
    exfalso
    omega
  | succ n ih =>
    intro t0 t1 z2 z3 z4 z5 z6 i1949 i1950 i1951 i1952 i1953
    unfold wp_X1_readCells_L38
    have := i1949.1
    have := i1949.2.1
    have := i1949.2.2.1
    have := i1949.2.2.2.1
    have := i1949.2.2.2.2.2.2.2.2.2
    have := i1950.1
    have := i1950.2.1
    have := i1950.2.2
    refine ⟨fun c1954 => ?_, fun c1955 => ?_⟩
    · replace c1954 := q_lt c1954
      have p1956 : 0 ≤ (z6).toInt ∧ (z6).toInt ≤ (z4).toInt + 1 ∧ (z4).toInt ≤ 39 := by omega
      have p1957 : 0 ≤ (z5).toInt ∧ (z5).toInt ≤ 3 := by omega
      exact ke66 _ _ _ _ _ _ _ i1949 i1950 p1956 p1957
    · replace c1955 := q_nlt c1955
      refine wq_X5_isSound (fun r_10 q1958 => ?_)
      refine ⟨fun c1959 => ?_, fun c1960 => ?_⟩
      · replace c1959 := q_eq c1959
        rw [li_0] at c1959
        have p1961 : 0 ≤ (z6).toInt ∧ (z6).toInt ≤ (z4).toInt + 1 ∧ (z4).toInt ≤ 39 := by omega
        have p1962 : 0 ≤ (z5).toInt ∧ (z5).toInt ≤ 3 := by omega
        exact ke66 _ _ _ _ _ _ _ i1949 i1950 p1961 p1962
      · replace c1960 := q_neq c1960
        rw [li_0] at c1960
        have p1963 : 0 ≤ (z6).toInt ∧ (z6).toInt < 40 := by omega
        have p1964 : 0 ≤ (z5).toInt ∧ (z5).toInt ≤ 3 := by omega
        refine wq_X0_makeCell i1949 p1963 p1964 (fun u_14 q1965 => ?_)
        have := q1965.1
        have := q1965.2.1
        have := q1965.2.2.1
        have := q1965.2.2.2.2.2.2.2.2.2
        have e1966 := tq_addr li_1 z6
        try rw [Int.emod_eq_of_lt (show 0 ≤ (z6).toInt + 1 + 2147483648 by omega) (show (z6).toInt + 1 + 2147483648 < 4294967296 by omega)] at e1966
        have p1967 : 0 ≤ (z6 + 1).toInt ∧ (z6 + 1).toInt ≤ (z4).toInt + 1 ∧ (z4).toInt ≤ 39 := by omega
        have p1968 : 0 ≤ (z5).toInt ∧ (z5).toInt ≤ 3 := by omega
        have p1969 : (z4).toInt - (z6 + 1).toInt + 1 < ((n : Nat) : Int) := by (omega)
        exact ih _ _ _ _ _ _ _ q1965 i1950 p1967 p1968 p1969
theorem wq_X1_readCells {post : Bd → Tp → Prop} {s0 : Bd} {s1 : Tp} {R W N : Int} (h1970 : bi (R) (W) s0) (h1971 : tj (N) s1) (k : ∀ (ua : Bd) (ub : Tp), bi (R) (W) ua → tk (N) ub → post ua ub) : wp_X1_readCells post s0 s1 := by
  unfold wp_X1_readCells
  have := h1970.1
  have := h1970.2.1
  have := h1970.2.2.1
  have := h1970.2.2.2.1
  have := h1970.2.2.2.2.2.2.2.2.2
  have := h1971.1
  have := h1971.2.1
  have := h1971.2.2
  refine wq_X0_cells h1970 (fun r_1 q1972 => ?_)
  refine wq_X5_takeNumber h1971 (fun r_3 u_4 q1973 q1974 q1975 => ?_)
  have := q1973.1
  have := q1973.2.1
  try simp only [li_0] at q1974
  have e1976 := tq_subr li_1 r_1
  try rw [Int.emod_eq_of_lt (show 0 ≤ (r_1).toInt - 1 + 2147483648 by omega) (show (r_1).toInt - 1 + 2147483648 < 4294967296 by omega)] at e1976
  try simp only [li_0] at q1975
  refine wq_X5_takeNumber q1973 (fun r_5 u_6 q1977 q1978 q1979 => ?_)
  have := q1977.1
  have := q1977.2.1
  refine wq_X5_takeNumber q1977 (fun r_7 u_8 q1980 q1981 q1982 => ?_)
  have := q1980.1
  have := q1980.2.1
  try simp only [li_0] at q1981
  have e1983 := tq_subr li_1 (s0.1 3)
  try rw [Int.emod_eq_of_lt (show 0 ≤ (s0.1 3).toInt - 1 + 2147483648 by omega) (show (s0.1 3).toInt - 1 + 2147483648 < 4294967296 by omega)] at e1983
  try simp only [li_0] at q1982
  have p1984 : (u_8.1 0).toInt = N := by omega
  have p1985 : 0 ≤ (u_8.1 1).toInt ∧ (u_8.1 1).toInt ≤ N + 1 ∧ 0 ≤ (u_8.1 2).toInt ∧ (u_8.1 2).toInt ≤ (u_8.1 1).toInt ∧ ((u_8.1 5).toInt ≠ 0 ∨ (u_8.1 1).toInt ≤ N) ∧ 0 ≤ (u_8.1 5).toInt ∧ (u_8.1 5).toInt ≤ 5000 := by omega
  have p1986 : 0 ≤ N ∧ N ≤ 400 := by omega
  have B1987 : tk (N) u_8 := ⟨p1984, p1985, p1986⟩
  have p1988 : 0 ≤ (r_3).toInt ∧ (r_3).toInt ≤ (r_5).toInt + 1 ∧ (r_5).toInt ≤ 39 := by omega
  have p1989 : 0 ≤ (r_7).toInt ∧ (r_7).toInt ≤ 3 := by omega
  obtain ⟨f1990, g1991⟩ := fu_e 100
  have p1992 : (r_5).toInt - (r_3).toInt + 1 < (f1990 : Int) := by (omega)
  refine ⟨f1990, wq_X1_readCells_L38 (fun t0 t1 z2 z3 z4 z5 z6 q1993 q1994 q1995 q1996 => ?_) f1990 _ _ _ _ _ _ _ h1970 B1987 p1988 p1989 p1992⟩
  have := q1993.1
  have := q1993.2.1
  have := q1993.2.2.1
  have := q1993.2.2.2.2.2.2.2.2.2
  have := q1994.1
  have := q1994.2.1
  exact k _ _ q1993 q1994
theorem wq_X1_readPart {post : Bd → Tp → Prop} {s0 : Bd} {s1 : Tp} {R W N : Int} (h1997 : bi (R) (W) s0) (h1998 : tj (N) s1) (k : ∀ (ua : Bd) (ub : Tp), bi (R) (W) ua → tk (N) ub → post ua ub) : wp_X1_readPart post s0 s1 := by
  unfold wp_X1_readPart
  have := h1997.1
  have := h1997.2.1
  have := h1997.2.2.1
  have := h1997.2.2.2.1
  have := h1997.2.2.2.2.2.2.2.2.2
  have := h1998.1
  have := h1998.2.1
  have := h1998.2.2
  refine wq_X5_takeWord h1998 (fun r_1 u_2 q1999 q2000 q2001 q2002 => ?_)
  have := q1999.1
  have := q1999.2.1
  refine ⟨fun c2003 => ?_, fun c2004 => ?_⟩
  · replace c2003 := q_lt c2003
    rw [li_3] at c2003
    have p2005 : (u_2.1 0).toInt = N := by omega
    have p2006 : 0 ≤ (u_2.1 1).toInt ∧ (u_2.1 1).toInt ≤ N + 1 ∧ 0 ≤ (u_2.1 2).toInt ∧ (u_2.1 2).toInt ≤ (u_2.1 1).toInt ∧ ((u_2.1 5).toInt ≠ 0 ∨ (u_2.1 1).toInt ≤ N) ∧ 0 ≤ (u_2.1 5).toInt ∧ (u_2.1 5).toInt ≤ 5000 := by omega
    have p2007 : 0 ≤ N ∧ N ≤ 400 := by omega
    have B2008 : tk (N) u_2 := ⟨p2005, p2006, p2007⟩
    have p2009 : 0 ≤ (u_2.1 2).toInt ∧ (u_2.1 2).toInt ≤ 500 ∧ 1 ≤ ((1 : Int32)).toInt ∧ ((1 : Int32)).toInt ≤ 4 := by (have := li_1; omega)
    refine wq_X5_blame B2008 p2009 (fun u_5 q2010 q2011 q2012 q2013 q2014 q2015 => ?_)
    have := q2010.1
    have := q2010.2.1
    refine wq_X5_isSound (fun r_6 q2016 => ?_)
    refine ⟨fun c2017 => ?_, fun c2018 => ?_⟩
    · replace c2017 := q_neq c2017
      rw [li_0] at c2017
      refine ⟨fun c2019 => ?_, fun c2020 => ?_⟩
      · replace c2019 := q_eq c2019
        rw [li_3] at c2019
        have p2021 : (u_5.1 0).toInt = N := by omega
        have p2022 : 0 ≤ (u_5.1 1).toInt ∧ (u_5.1 1).toInt ≤ N ∧ 0 ≤ (u_5.1 2).toInt ∧ (u_5.1 2).toInt ≤ (u_5.1 1).toInt ∧ 0 ≤ (u_5.1 5).toInt ∧ (u_5.1 5).toInt ≤ 5000 := by omega
        have p2023 : 0 ≤ N ∧ N ≤ 400 := by omega
        have B2024 : tj (N) u_5 := ⟨p2021, p2022, p2023⟩
        refine wq_X1_readDrum h1997 B2024 (fun u_11a u_11b q2025 q2026 => ?_)
        have := q2025.1
        have := q2025.2.1
        have := q2025.2.2.1
        have := q2025.2.2.2.2.2.2.2.2.2
        have := q2026.1
        have := q2026.2.1
        exact k _ _ q2025 q2026
      · replace c2020 := q_neq c2020
        rw [li_3] at c2020
        refine ⟨fun c2027 => ?_, fun c2028 => ?_⟩
        · replace c2027 := q_eq c2027
          rw [li_4] at c2027
          have p2029 : (u_5.1 0).toInt = N := by omega
          have p2030 : 0 ≤ (u_5.1 1).toInt ∧ (u_5.1 1).toInt ≤ N ∧ 0 ≤ (u_5.1 2).toInt ∧ (u_5.1 2).toInt ≤ (u_5.1 1).toInt ∧ 0 ≤ (u_5.1 5).toInt ∧ (u_5.1 5).toInt ≤ 5000 := by omega
          have p2031 : 0 ≤ N ∧ N ≤ 400 := by omega
          have B2032 : tj (N) u_5 := ⟨p2029, p2030, p2031⟩
          refine wq_X1_readCells h1997 B2032 (fun u_14a u_14b q2033 q2034 => ?_)
          have := q2033.1
          have := q2033.2.1
          have := q2033.2.2.1
          have := q2033.2.2.2.2.2.2.2.2.2
          have := q2034.1
          have := q2034.2.1
          exact k _ _ q2033 q2034
        · replace c2028 := q_neq c2028
          rw [li_4] at c2028
          refine ⟨fun c2035 => ?_, fun c2036 => ?_⟩
          · replace c2035 := q_eq c2035
            rw [li_5] at c2035
            have p2037 : (u_5.1 0).toInt = N := by omega
            have p2038 : 0 ≤ (u_5.1 1).toInt ∧ (u_5.1 1).toInt ≤ N ∧ 0 ≤ (u_5.1 2).toInt ∧ (u_5.1 2).toInt ≤ (u_5.1 1).toInt ∧ 0 ≤ (u_5.1 5).toInt ∧ (u_5.1 5).toInt ≤ 5000 := by omega
            have p2039 : 0 ≤ N ∧ N ≤ 400 := by omega
            have B2040 : tj (N) u_5 := ⟨p2037, p2038, p2039⟩
            refine wq_X1_readWorn h1997 B2040 (fun u_17a u_17b q2041 q2042 => ?_)
            have := q2041.1
            have := q2041.2.1
            have := q2041.2.2.1
            have := q2041.2.2.2.2.2.2.2.2.2
            have := q2042.1
            have := q2042.2.1
            exact k _ _ q2041 q2042
          · replace c2036 := q_neq c2036
            rw [li_5] at c2036
            refine ⟨fun c2043 => ?_, fun c2044 => ?_⟩
            · replace c2043 := q_eq c2043
              rw [li_6] at c2043
              have p2045 : (u_5.1 0).toInt = N := by omega
              have p2046 : 0 ≤ (u_5.1 1).toInt ∧ (u_5.1 1).toInt ≤ N ∧ 0 ≤ (u_5.1 2).toInt ∧ (u_5.1 2).toInt ≤ (u_5.1 1).toInt ∧ 0 ≤ (u_5.1 5).toInt ∧ (u_5.1 5).toInt ≤ 5000 := by omega
              have p2047 : 0 ≤ N ∧ N ≤ 400 := by omega
              have B2048 : tj (N) u_5 := ⟨p2045, p2046, p2047⟩
              refine wq_X1_readRow h1997 B2048 (fun u_20a u_20b q2049 q2050 => ?_)
              have := q2049.1
              have := q2049.2.1
              have := q2049.2.2.1
              have := q2049.2.2.2.2.2.2.2.2.2
              have := q2050.1
              have := q2050.2.1
              exact k _ _ q2049 q2050
            · replace c2044 := q_neq c2044
              rw [li_6] at c2044
              have p2051 : (u_5.1 0).toInt = N := by omega
              have p2052 : 0 ≤ (u_5.1 1).toInt ∧ (u_5.1 1).toInt ≤ N ∧ 0 ≤ (u_5.1 2).toInt ∧ (u_5.1 2).toInt ≤ (u_5.1 1).toInt ∧ 0 ≤ (u_5.1 5).toInt ∧ (u_5.1 5).toInt ≤ 5000 := by omega
              have p2053 : 0 ≤ N ∧ N ≤ 400 := by omega
              have B2054 : tj (N) u_5 := ⟨p2051, p2052, p2053⟩
              refine wq_X1_readLose h1997 B2054 (fun u_22a u_22b q2055 q2056 => ?_)
              have := q2055.1
              have := q2055.2.1
              have := q2055.2.2.1
              have := q2055.2.2.2.2.2.2.2.2.2
              have := q2056.1
              have := q2056.2.1
              exact k _ _ q2055 q2056
    · replace c2018 := q_eq c2018
      rw [li_0] at c2018
      exact k _ _ h1997 q2010
  · replace c2004 := q_nlt c2004
    rw [li_3] at c2004
    refine ⟨fun c2057 => ?_, fun c2058 => ?_⟩
    · replace c2057 := q_le c2057
      rw [li_7] at c2057
      refine ⟨fun c2059 => ?_, fun c2060 => ?_⟩
      · replace c2059 := q_neq c2059
        rw [li_3] at c2059
        refine ⟨fun c2061 => ?_, fun c2062 => ?_⟩
        · replace c2061 := q_neq c2061
          rw [li_0] at c2061
          refine wq_X5_isSound (fun r_26 q2063 => ?_)
          refine ⟨fun c2064 => ?_, fun c2065 => ?_⟩
          · replace c2064 := q_neq c2064
            rw [li_0] at c2064
            refine ⟨fun c2066 => ?_, fun c2067 => ?_⟩
            · replace c2066 := q_eq c2066
              rw [li_3] at c2066
              refine wq_X1_readDrum h1997 q1999 (fun u_31a u_31b q2068 q2069 => ?_)
              have := q2068.1
              have := q2068.2.1
              have := q2068.2.2.1
              have := q2068.2.2.2.2.2.2.2.2.2
              have := q2069.1
              have := q2069.2.1
              exact k _ _ q2068 q2069
            · replace c2067 := q_neq c2067
              rw [li_3] at c2067
              refine ⟨fun c2070 => ?_, fun c2071 => ?_⟩
              · replace c2070 := q_eq c2070
                rw [li_4] at c2070
                refine wq_X1_readCells h1997 q1999 (fun u_34a u_34b q2072 q2073 => ?_)
                have := q2072.1
                have := q2072.2.1
                have := q2072.2.2.1
                have := q2072.2.2.2.2.2.2.2.2.2
                have := q2073.1
                have := q2073.2.1
                exact k _ _ q2072 q2073
              · replace c2071 := q_neq c2071
                rw [li_4] at c2071
                refine ⟨fun c2074 => ?_, fun c2075 => ?_⟩
                · replace c2074 := q_eq c2074
                  rw [li_5] at c2074
                  refine wq_X1_readWorn h1997 q1999 (fun u_37a u_37b q2076 q2077 => ?_)
                  have := q2076.1
                  have := q2076.2.1
                  have := q2076.2.2.1
                  have := q2076.2.2.2.2.2.2.2.2.2
                  have := q2077.1
                  have := q2077.2.1
                  exact k _ _ q2076 q2077
                · replace c2075 := q_neq c2075
                  rw [li_5] at c2075
                  refine ⟨fun c2078 => ?_, fun c2079 => ?_⟩
                  · replace c2078 := q_eq c2078
                    rw [li_6] at c2078
                    refine wq_X1_readRow h1997 q1999 (fun u_40a u_40b q2080 q2081 => ?_)
                    have := q2080.1
                    have := q2080.2.1
                    have := q2080.2.2.1
                    have := q2080.2.2.2.2.2.2.2.2.2
                    have := q2081.1
                    have := q2081.2.1
                    exact k _ _ q2080 q2081
                  · replace c2079 := q_neq c2079
                    rw [li_6] at c2079
                    refine wq_X1_readLose h1997 q1999 (fun u_42a u_42b q2082 q2083 => ?_)
                    have := q2082.1
                    have := q2082.2.1
                    have := q2082.2.2.1
                    have := q2082.2.2.2.2.2.2.2.2.2
                    have := q2083.1
                    have := q2083.2.1
                    exact k _ _ q2082 q2083
          · replace c2065 := q_eq c2065
            rw [li_0] at c2065
            have p2084 : (u_2.1 0).toInt = N := by omega
            have p2085 : 0 ≤ (u_2.1 1).toInt ∧ (u_2.1 1).toInt ≤ N + 1 ∧ 0 ≤ (u_2.1 2).toInt ∧ (u_2.1 2).toInt ≤ (u_2.1 1).toInt ∧ ((u_2.1 5).toInt ≠ 0 ∨ (u_2.1 1).toInt ≤ N) ∧ 0 ≤ (u_2.1 5).toInt ∧ (u_2.1 5).toInt ≤ 5000 := by omega
            have p2086 : 0 ≤ N ∧ N ≤ 400 := by omega
            have B2087 : tk (N) u_2 := ⟨p2084, p2085, p2086⟩
            exact k _ _ h1997 B2087
        · replace c2062 := q_eq c2062
          rw [li_0] at c2062
          have p2088 : (u_2.1 0).toInt = N := by omega
          have p2089 : 0 ≤ (u_2.1 1).toInt ∧ (u_2.1 1).toInt ≤ N + 1 ∧ 0 ≤ (u_2.1 2).toInt ∧ (u_2.1 2).toInt ≤ (u_2.1 1).toInt ∧ ((u_2.1 5).toInt ≠ 0 ∨ (u_2.1 1).toInt ≤ N) ∧ 0 ≤ (u_2.1 5).toInt ∧ (u_2.1 5).toInt ≤ 5000 := by omega
          have p2090 : 0 ≤ N ∧ N ≤ 400 := by omega
          have B2091 : tk (N) u_2 := ⟨p2088, p2089, p2090⟩
          have p2092 : 0 ≤ (u_2.1 2).toInt ∧ (u_2.1 2).toInt ≤ 500 ∧ 1 ≤ ((3 : Int32)).toInt ∧ ((3 : Int32)).toInt ≤ 4 := by (have := li_3; omega)
          refine wq_X5_blame B2091 p2092 (fun u_44 q2093 q2094 q2095 q2096 q2097 q2098 => ?_)
          have := q2093.1
          have := q2093.2.1
          refine wq_X5_isSound (fun r_45 q2099 => ?_)
          refine ⟨fun c2100 => ?_, fun c2101 => ?_⟩
          · replace c2100 := q_neq c2100
            rw [li_0] at c2100
            refine ⟨fun c2102 => ?_, fun c2103 => ?_⟩
            · replace c2102 := q_eq c2102
              rw [li_3] at c2102
              have p2104 : (u_44.1 0).toInt = N := by omega
              have p2105 : 0 ≤ (u_44.1 1).toInt ∧ (u_44.1 1).toInt ≤ N ∧ 0 ≤ (u_44.1 2).toInt ∧ (u_44.1 2).toInt ≤ (u_44.1 1).toInt ∧ 0 ≤ (u_44.1 5).toInt ∧ (u_44.1 5).toInt ≤ 5000 := by omega
              have p2106 : 0 ≤ N ∧ N ≤ 400 := by omega
              have B2107 : tj (N) u_44 := ⟨p2104, p2105, p2106⟩
              refine wq_X1_readDrum h1997 B2107 (fun u_50a u_50b q2108 q2109 => ?_)
              have := q2108.1
              have := q2108.2.1
              have := q2108.2.2.1
              have := q2108.2.2.2.2.2.2.2.2.2
              have := q2109.1
              have := q2109.2.1
              exact k _ _ q2108 q2109
            · replace c2103 := q_neq c2103
              rw [li_3] at c2103
              refine ⟨fun c2110 => ?_, fun c2111 => ?_⟩
              · replace c2110 := q_eq c2110
                rw [li_4] at c2110
                have p2112 : (u_44.1 0).toInt = N := by omega
                have p2113 : 0 ≤ (u_44.1 1).toInt ∧ (u_44.1 1).toInt ≤ N ∧ 0 ≤ (u_44.1 2).toInt ∧ (u_44.1 2).toInt ≤ (u_44.1 1).toInt ∧ 0 ≤ (u_44.1 5).toInt ∧ (u_44.1 5).toInt ≤ 5000 := by omega
                have p2114 : 0 ≤ N ∧ N ≤ 400 := by omega
                have B2115 : tj (N) u_44 := ⟨p2112, p2113, p2114⟩
                refine wq_X1_readCells h1997 B2115 (fun u_53a u_53b q2116 q2117 => ?_)
                have := q2116.1
                have := q2116.2.1
                have := q2116.2.2.1
                have := q2116.2.2.2.2.2.2.2.2.2
                have := q2117.1
                have := q2117.2.1
                exact k _ _ q2116 q2117
              · replace c2111 := q_neq c2111
                rw [li_4] at c2111
                refine ⟨fun c2118 => ?_, fun c2119 => ?_⟩
                · replace c2118 := q_eq c2118
                  rw [li_5] at c2118
                  have p2120 : (u_44.1 0).toInt = N := by omega
                  have p2121 : 0 ≤ (u_44.1 1).toInt ∧ (u_44.1 1).toInt ≤ N ∧ 0 ≤ (u_44.1 2).toInt ∧ (u_44.1 2).toInt ≤ (u_44.1 1).toInt ∧ 0 ≤ (u_44.1 5).toInt ∧ (u_44.1 5).toInt ≤ 5000 := by omega
                  have p2122 : 0 ≤ N ∧ N ≤ 400 := by omega
                  have B2123 : tj (N) u_44 := ⟨p2120, p2121, p2122⟩
                  refine wq_X1_readWorn h1997 B2123 (fun u_56a u_56b q2124 q2125 => ?_)
                  have := q2124.1
                  have := q2124.2.1
                  have := q2124.2.2.1
                  have := q2124.2.2.2.2.2.2.2.2.2
                  have := q2125.1
                  have := q2125.2.1
                  exact k _ _ q2124 q2125
                · replace c2119 := q_neq c2119
                  rw [li_5] at c2119
                  refine ⟨fun c2126 => ?_, fun c2127 => ?_⟩
                  · replace c2126 := q_eq c2126
                    rw [li_6] at c2126
                    have p2128 : (u_44.1 0).toInt = N := by omega
                    have p2129 : 0 ≤ (u_44.1 1).toInt ∧ (u_44.1 1).toInt ≤ N ∧ 0 ≤ (u_44.1 2).toInt ∧ (u_44.1 2).toInt ≤ (u_44.1 1).toInt ∧ 0 ≤ (u_44.1 5).toInt ∧ (u_44.1 5).toInt ≤ 5000 := by omega
                    have p2130 : 0 ≤ N ∧ N ≤ 400 := by omega
                    have B2131 : tj (N) u_44 := ⟨p2128, p2129, p2130⟩
                    refine wq_X1_readRow h1997 B2131 (fun u_59a u_59b q2132 q2133 => ?_)
                    have := q2132.1
                    have := q2132.2.1
                    have := q2132.2.2.1
                    have := q2132.2.2.2.2.2.2.2.2.2
                    have := q2133.1
                    have := q2133.2.1
                    exact k _ _ q2132 q2133
                  · replace c2127 := q_neq c2127
                    rw [li_6] at c2127
                    have p2134 : (u_44.1 0).toInt = N := by omega
                    have p2135 : 0 ≤ (u_44.1 1).toInt ∧ (u_44.1 1).toInt ≤ N ∧ 0 ≤ (u_44.1 2).toInt ∧ (u_44.1 2).toInt ≤ (u_44.1 1).toInt ∧ 0 ≤ (u_44.1 5).toInt ∧ (u_44.1 5).toInt ≤ 5000 := by omega
                    have p2136 : 0 ≤ N ∧ N ≤ 400 := by omega
                    have B2137 : tj (N) u_44 := ⟨p2134, p2135, p2136⟩
                    refine wq_X1_readLose h1997 B2137 (fun u_61a u_61b q2138 q2139 => ?_)
                    have := q2138.1
                    have := q2138.2.1
                    have := q2138.2.2.1
                    have := q2138.2.2.2.2.2.2.2.2.2
                    have := q2139.1
                    have := q2139.2.1
                    exact k _ _ q2138 q2139
          · replace c2101 := q_eq c2101
            rw [li_0] at c2101
            exact k _ _ h1997 q2093
      · replace c2060 := q_eq c2060
        rw [li_3] at c2060
        refine ⟨fun c2140 => ?_, fun c2141 => ?_⟩
        · replace c2140 := q_neq c2140
          rw [li_4] at c2140
          refine wq_X5_isSound (fun r_63 q2142 => ?_)
          refine ⟨fun c2143 => ?_, fun c2144 => ?_⟩
          · replace c2143 := q_neq c2143
            rw [li_0] at c2143
            refine ⟨fun c2145 => ?_, fun c2146 => ?_⟩
            · replace c2145 := q_eq c2145
              rw [li_3] at c2145
              refine wq_X1_readDrum h1997 q1999 (fun u_68a u_68b q2147 q2148 => ?_)
              have := q2147.1
              have := q2147.2.1
              have := q2147.2.2.1
              have := q2147.2.2.2.2.2.2.2.2.2
              have := q2148.1
              have := q2148.2.1
              exact k _ _ q2147 q2148
            · replace c2146 := q_neq c2146
              rw [li_3] at c2146
              refine ⟨fun c2149 => ?_, fun c2150 => ?_⟩
              · replace c2149 := q_eq c2149
                rw [li_4] at c2149
                refine wq_X1_readCells h1997 q1999 (fun u_71a u_71b q2151 q2152 => ?_)
                have := q2151.1
                have := q2151.2.1
                have := q2151.2.2.1
                have := q2151.2.2.2.2.2.2.2.2.2
                have := q2152.1
                have := q2152.2.1
                exact k _ _ q2151 q2152
              · replace c2150 := q_neq c2150
                rw [li_4] at c2150
                refine ⟨fun c2153 => ?_, fun c2154 => ?_⟩
                · replace c2153 := q_eq c2153
                  rw [li_5] at c2153
                  refine wq_X1_readWorn h1997 q1999 (fun u_74a u_74b q2155 q2156 => ?_)
                  have := q2155.1
                  have := q2155.2.1
                  have := q2155.2.2.1
                  have := q2155.2.2.2.2.2.2.2.2.2
                  have := q2156.1
                  have := q2156.2.1
                  exact k _ _ q2155 q2156
                · replace c2154 := q_neq c2154
                  rw [li_5] at c2154
                  refine ⟨fun c2157 => ?_, fun c2158 => ?_⟩
                  · replace c2157 := q_eq c2157
                    rw [li_6] at c2157
                    refine wq_X1_readRow h1997 q1999 (fun u_77a u_77b q2159 q2160 => ?_)
                    have := q2159.1
                    have := q2159.2.1
                    have := q2159.2.2.1
                    have := q2159.2.2.2.2.2.2.2.2.2
                    have := q2160.1
                    have := q2160.2.1
                    exact k _ _ q2159 q2160
                  · replace c2158 := q_neq c2158
                    rw [li_6] at c2158
                    refine wq_X1_readLose h1997 q1999 (fun u_79a u_79b q2161 q2162 => ?_)
                    have := q2161.1
                    have := q2161.2.1
                    have := q2161.2.2.1
                    have := q2161.2.2.2.2.2.2.2.2.2
                    have := q2162.1
                    have := q2162.2.1
                    exact k _ _ q2161 q2162
          · replace c2144 := q_eq c2144
            rw [li_0] at c2144
            have p2163 : (u_2.1 0).toInt = N := by omega
            have p2164 : 0 ≤ (u_2.1 1).toInt ∧ (u_2.1 1).toInt ≤ N + 1 ∧ 0 ≤ (u_2.1 2).toInt ∧ (u_2.1 2).toInt ≤ (u_2.1 1).toInt ∧ ((u_2.1 5).toInt ≠ 0 ∨ (u_2.1 1).toInt ≤ N) ∧ 0 ≤ (u_2.1 5).toInt ∧ (u_2.1 5).toInt ≤ 5000 := by omega
            have p2165 : 0 ≤ N ∧ N ≤ 400 := by omega
            have B2166 : tk (N) u_2 := ⟨p2163, p2164, p2165⟩
            exact k _ _ h1997 B2166
        · replace c2141 := q_eq c2141
          rw [li_4] at c2141
          have p2167 : (u_2.1 0).toInt = N := by omega
          have p2168 : 0 ≤ (u_2.1 1).toInt ∧ (u_2.1 1).toInt ≤ N + 1 ∧ 0 ≤ (u_2.1 2).toInt ∧ (u_2.1 2).toInt ≤ (u_2.1 1).toInt ∧ ((u_2.1 5).toInt ≠ 0 ∨ (u_2.1 1).toInt ≤ N) ∧ 0 ≤ (u_2.1 5).toInt ∧ (u_2.1 5).toInt ≤ 5000 := by omega
          have p2169 : 0 ≤ N ∧ N ≤ 400 := by omega
          have B2170 : tk (N) u_2 := ⟨p2167, p2168, p2169⟩
          have p2171 : 0 ≤ (u_2.1 2).toInt ∧ (u_2.1 2).toInt ≤ 500 ∧ 1 ≤ ((3 : Int32)).toInt ∧ ((3 : Int32)).toInt ≤ 4 := by (have := li_3; omega)
          refine wq_X5_blame B2170 p2171 (fun u_81 q2172 q2173 q2174 q2175 q2176 q2177 => ?_)
          have := q2172.1
          have := q2172.2.1
          refine wq_X5_isSound (fun r_82 q2178 => ?_)
          refine ⟨fun c2179 => ?_, fun c2180 => ?_⟩
          · replace c2179 := q_neq c2179
            rw [li_0] at c2179
            refine ⟨fun c2181 => ?_, fun c2182 => ?_⟩
            · replace c2181 := q_eq c2181
              rw [li_3] at c2181
              have p2183 : (u_81.1 0).toInt = N := by omega
              have p2184 : 0 ≤ (u_81.1 1).toInt ∧ (u_81.1 1).toInt ≤ N ∧ 0 ≤ (u_81.1 2).toInt ∧ (u_81.1 2).toInt ≤ (u_81.1 1).toInt ∧ 0 ≤ (u_81.1 5).toInt ∧ (u_81.1 5).toInt ≤ 5000 := by omega
              have p2185 : 0 ≤ N ∧ N ≤ 400 := by omega
              have B2186 : tj (N) u_81 := ⟨p2183, p2184, p2185⟩
              refine wq_X1_readDrum h1997 B2186 (fun u_87a u_87b q2187 q2188 => ?_)
              have := q2187.1
              have := q2187.2.1
              have := q2187.2.2.1
              have := q2187.2.2.2.2.2.2.2.2.2
              have := q2188.1
              have := q2188.2.1
              exact k _ _ q2187 q2188
            · replace c2182 := q_neq c2182
              rw [li_3] at c2182
              refine ⟨fun c2189 => ?_, fun c2190 => ?_⟩
              · replace c2189 := q_eq c2189
                rw [li_4] at c2189
                have p2191 : (u_81.1 0).toInt = N := by omega
                have p2192 : 0 ≤ (u_81.1 1).toInt ∧ (u_81.1 1).toInt ≤ N ∧ 0 ≤ (u_81.1 2).toInt ∧ (u_81.1 2).toInt ≤ (u_81.1 1).toInt ∧ 0 ≤ (u_81.1 5).toInt ∧ (u_81.1 5).toInt ≤ 5000 := by omega
                have p2193 : 0 ≤ N ∧ N ≤ 400 := by omega
                have B2194 : tj (N) u_81 := ⟨p2191, p2192, p2193⟩
                refine wq_X1_readCells h1997 B2194 (fun u_90a u_90b q2195 q2196 => ?_)
                have := q2195.1
                have := q2195.2.1
                have := q2195.2.2.1
                have := q2195.2.2.2.2.2.2.2.2.2
                have := q2196.1
                have := q2196.2.1
                exact k _ _ q2195 q2196
              · replace c2190 := q_neq c2190
                rw [li_4] at c2190
                refine ⟨fun c2197 => ?_, fun c2198 => ?_⟩
                · replace c2197 := q_eq c2197
                  rw [li_5] at c2197
                  have p2199 : (u_81.1 0).toInt = N := by omega
                  have p2200 : 0 ≤ (u_81.1 1).toInt ∧ (u_81.1 1).toInt ≤ N ∧ 0 ≤ (u_81.1 2).toInt ∧ (u_81.1 2).toInt ≤ (u_81.1 1).toInt ∧ 0 ≤ (u_81.1 5).toInt ∧ (u_81.1 5).toInt ≤ 5000 := by omega
                  have p2201 : 0 ≤ N ∧ N ≤ 400 := by omega
                  have B2202 : tj (N) u_81 := ⟨p2199, p2200, p2201⟩
                  refine wq_X1_readWorn h1997 B2202 (fun u_93a u_93b q2203 q2204 => ?_)
                  have := q2203.1
                  have := q2203.2.1
                  have := q2203.2.2.1
                  have := q2203.2.2.2.2.2.2.2.2.2
                  have := q2204.1
                  have := q2204.2.1
                  exact k _ _ q2203 q2204
                · replace c2198 := q_neq c2198
                  rw [li_5] at c2198
                  refine ⟨fun c2205 => ?_, fun c2206 => ?_⟩
                  · replace c2205 := q_eq c2205
                    rw [li_6] at c2205
                    have p2207 : (u_81.1 0).toInt = N := by omega
                    have p2208 : 0 ≤ (u_81.1 1).toInt ∧ (u_81.1 1).toInt ≤ N ∧ 0 ≤ (u_81.1 2).toInt ∧ (u_81.1 2).toInt ≤ (u_81.1 1).toInt ∧ 0 ≤ (u_81.1 5).toInt ∧ (u_81.1 5).toInt ≤ 5000 := by omega
                    have p2209 : 0 ≤ N ∧ N ≤ 400 := by omega
                    have B2210 : tj (N) u_81 := ⟨p2207, p2208, p2209⟩
                    refine wq_X1_readRow h1997 B2210 (fun u_96a u_96b q2211 q2212 => ?_)
                    have := q2211.1
                    have := q2211.2.1
                    have := q2211.2.2.1
                    have := q2211.2.2.2.2.2.2.2.2.2
                    have := q2212.1
                    have := q2212.2.1
                    exact k _ _ q2211 q2212
                  · replace c2206 := q_neq c2206
                    rw [li_6] at c2206
                    have p2213 : (u_81.1 0).toInt = N := by omega
                    have p2214 : 0 ≤ (u_81.1 1).toInt ∧ (u_81.1 1).toInt ≤ N ∧ 0 ≤ (u_81.1 2).toInt ∧ (u_81.1 2).toInt ≤ (u_81.1 1).toInt ∧ 0 ≤ (u_81.1 5).toInt ∧ (u_81.1 5).toInt ≤ 5000 := by omega
                    have p2215 : 0 ≤ N ∧ N ≤ 400 := by omega
                    have B2216 : tj (N) u_81 := ⟨p2213, p2214, p2215⟩
                    refine wq_X1_readLose h1997 B2216 (fun u_98a u_98b q2217 q2218 => ?_)
                    have := q2217.1
                    have := q2217.2.1
                    have := q2217.2.2.1
                    have := q2217.2.2.2.2.2.2.2.2.2
                    have := q2218.1
                    have := q2218.2.1
                    exact k _ _ q2217 q2218
          · replace c2180 := q_eq c2180
            rw [li_0] at c2180
            exact k _ _ h1997 q2172
    · replace c2058 := q_nle c2058
      rw [li_7] at c2058
      have p2219 : (u_2.1 0).toInt = N := by omega
      have p2220 : 0 ≤ (u_2.1 1).toInt ∧ (u_2.1 1).toInt ≤ N + 1 ∧ 0 ≤ (u_2.1 2).toInt ∧ (u_2.1 2).toInt ≤ (u_2.1 1).toInt ∧ ((u_2.1 5).toInt ≠ 0 ∨ (u_2.1 1).toInt ≤ N) ∧ 0 ≤ (u_2.1 5).toInt ∧ (u_2.1 5).toInt ≤ 5000 := by omega
      have p2221 : 0 ≤ N ∧ N ≤ 400 := by omega
      have B2222 : tk (N) u_2 := ⟨p2219, p2220, p2221⟩
      have p2223 : 0 ≤ (u_2.1 2).toInt ∧ (u_2.1 2).toInt ≤ 500 ∧ 1 ≤ ((1 : Int32)).toInt ∧ ((1 : Int32)).toInt ≤ 4 := by (have := li_1; omega)
      refine wq_X5_blame B2222 p2223 (fun u_100 q2224 q2225 q2226 q2227 q2228 q2229 => ?_)
      have := q2224.1
      have := q2224.2.1
      refine wq_X5_isSound (fun r_101 q2230 => ?_)
      refine ⟨fun c2231 => ?_, fun c2232 => ?_⟩
      · replace c2231 := q_neq c2231
        rw [li_0] at c2231
        refine ⟨fun c2233 => ?_, fun c2234 => ?_⟩
        · replace c2233 := q_eq c2233
          rw [li_3] at c2233
          have p2235 : (u_100.1 0).toInt = N := by omega
          have p2236 : 0 ≤ (u_100.1 1).toInt ∧ (u_100.1 1).toInt ≤ N ∧ 0 ≤ (u_100.1 2).toInt ∧ (u_100.1 2).toInt ≤ (u_100.1 1).toInt ∧ 0 ≤ (u_100.1 5).toInt ∧ (u_100.1 5).toInt ≤ 5000 := by omega
          have p2237 : 0 ≤ N ∧ N ≤ 400 := by omega
          have B2238 : tj (N) u_100 := ⟨p2235, p2236, p2237⟩
          refine wq_X1_readDrum h1997 B2238 (fun u_106a u_106b q2239 q2240 => ?_)
          have := q2239.1
          have := q2239.2.1
          have := q2239.2.2.1
          have := q2239.2.2.2.2.2.2.2.2.2
          have := q2240.1
          have := q2240.2.1
          exact k _ _ q2239 q2240
        · replace c2234 := q_neq c2234
          rw [li_3] at c2234
          refine ⟨fun c2241 => ?_, fun c2242 => ?_⟩
          · replace c2241 := q_eq c2241
            rw [li_4] at c2241
            have p2243 : (u_100.1 0).toInt = N := by omega
            have p2244 : 0 ≤ (u_100.1 1).toInt ∧ (u_100.1 1).toInt ≤ N ∧ 0 ≤ (u_100.1 2).toInt ∧ (u_100.1 2).toInt ≤ (u_100.1 1).toInt ∧ 0 ≤ (u_100.1 5).toInt ∧ (u_100.1 5).toInt ≤ 5000 := by omega
            have p2245 : 0 ≤ N ∧ N ≤ 400 := by omega
            have B2246 : tj (N) u_100 := ⟨p2243, p2244, p2245⟩
            refine wq_X1_readCells h1997 B2246 (fun u_109a u_109b q2247 q2248 => ?_)
            have := q2247.1
            have := q2247.2.1
            have := q2247.2.2.1
            have := q2247.2.2.2.2.2.2.2.2.2
            have := q2248.1
            have := q2248.2.1
            exact k _ _ q2247 q2248
          · replace c2242 := q_neq c2242
            rw [li_4] at c2242
            refine ⟨fun c2249 => ?_, fun c2250 => ?_⟩
            · replace c2249 := q_eq c2249
              rw [li_5] at c2249
              have p2251 : (u_100.1 0).toInt = N := by omega
              have p2252 : 0 ≤ (u_100.1 1).toInt ∧ (u_100.1 1).toInt ≤ N ∧ 0 ≤ (u_100.1 2).toInt ∧ (u_100.1 2).toInt ≤ (u_100.1 1).toInt ∧ 0 ≤ (u_100.1 5).toInt ∧ (u_100.1 5).toInt ≤ 5000 := by omega
              have p2253 : 0 ≤ N ∧ N ≤ 400 := by omega
              have B2254 : tj (N) u_100 := ⟨p2251, p2252, p2253⟩
              refine wq_X1_readWorn h1997 B2254 (fun u_112a u_112b q2255 q2256 => ?_)
              have := q2255.1
              have := q2255.2.1
              have := q2255.2.2.1
              have := q2255.2.2.2.2.2.2.2.2.2
              have := q2256.1
              have := q2256.2.1
              exact k _ _ q2255 q2256
            · replace c2250 := q_neq c2250
              rw [li_5] at c2250
              refine ⟨fun c2257 => ?_, fun c2258 => ?_⟩
              · replace c2257 := q_eq c2257
                rw [li_6] at c2257
                have p2259 : (u_100.1 0).toInt = N := by omega
                have p2260 : 0 ≤ (u_100.1 1).toInt ∧ (u_100.1 1).toInt ≤ N ∧ 0 ≤ (u_100.1 2).toInt ∧ (u_100.1 2).toInt ≤ (u_100.1 1).toInt ∧ 0 ≤ (u_100.1 5).toInt ∧ (u_100.1 5).toInt ≤ 5000 := by omega
                have p2261 : 0 ≤ N ∧ N ≤ 400 := by omega
                have B2262 : tj (N) u_100 := ⟨p2259, p2260, p2261⟩
                refine wq_X1_readRow h1997 B2262 (fun u_115a u_115b q2263 q2264 => ?_)
                have := q2263.1
                have := q2263.2.1
                have := q2263.2.2.1
                have := q2263.2.2.2.2.2.2.2.2.2
                have := q2264.1
                have := q2264.2.1
                exact k _ _ q2263 q2264
              · replace c2258 := q_neq c2258
                rw [li_6] at c2258
                have p2265 : (u_100.1 0).toInt = N := by omega
                have p2266 : 0 ≤ (u_100.1 1).toInt ∧ (u_100.1 1).toInt ≤ N ∧ 0 ≤ (u_100.1 2).toInt ∧ (u_100.1 2).toInt ≤ (u_100.1 1).toInt ∧ 0 ≤ (u_100.1 5).toInt ∧ (u_100.1 5).toInt ≤ 5000 := by omega
                have p2267 : 0 ≤ N ∧ N ≤ 400 := by omega
                have B2268 : tj (N) u_100 := ⟨p2265, p2266, p2267⟩
                refine wq_X1_readLose h1997 B2268 (fun u_117a u_117b q2269 q2270 => ?_)
                have := q2269.1
                have := q2269.2.1
                have := q2269.2.2.1
                have := q2269.2.2.2.2.2.2.2.2.2
                have := q2270.1
                have := q2270.2.1
                exact k _ _ q2269 q2270
      · replace c2232 := q_eq c2232
        rw [li_0] at c2232
        exact k _ _ h1997 q2224
theorem wq_X1_readInto_L15 {post : Bd → Tp → Prop} {e54 : Bd → Tp → Int32 → Prop} {R W N : Int} (ke54 : ∀ (t0 : Bd) (t1 : Tp) (z2 : Int32), bi (R) (W) t0 → tk (N) t1 → 0 ≤ (z2).toInt ∧ (z2).toInt ≤ 400 → e54 t0 t1 z2) : ∀ (n : Nat) (t0 : Bd) (t1 : Tp) (z2 : Int32), bi (R) (W) t0 → tk (N) t1 → 0 ≤ (z2).toInt ∧ (z2).toInt ≤ 400 → 400 - (z2).toInt < (n : Int) → wp_X1_readInto_L15 post e54 n t0 t1 z2 := by
  intro n
  induction n with
  | zero =>
    intro t0 t1 z2 i2271 i2272 i2273 i2274
    have := i2271.1
    have := i2271.2.1
    have := i2271.2.2.1
    have := i2271.2.2.2.1
    have := i2271.2.2.2.2.2.2.2.2.2
    have := i2272.1
    have := i2272.2.1
    have := i2272.2.2
    exfalso
    omega
  | succ n ih =>
    intro t0 t1 z2 i2271 i2272 i2273 i2274
    unfold wp_X1_readInto_L15
    have := i2271.1
    have := i2271.2.1
    have := i2271.2.2.1
    have := i2271.2.2.2.1
    have := i2271.2.2.2.2.2.2.2.2.2
    have := i2272.1
    have := i2272.2.1
    have := i2272.2.2
    refine ⟨fun c2275 => ?_, fun c2276 => ?_⟩
    · replace c2275 := q_le c2275
      rw [li_400] at c2275
      have p2277 : 0 ≤ (z2).toInt ∧ (z2).toInt ≤ 400 := by omega
      exact ke54 _ _ _ i2271 i2272 p2277
    · replace c2276 := q_nle c2276
      rw [li_400] at c2276
      refine wq_X5_isSound (fun r_8 q2278 => ?_)
      refine ⟨fun c2279 => ?_, fun c2280 => ?_⟩
      · replace c2279 := q_eq c2279
        rw [li_0] at c2279
        have p2281 : 0 ≤ (z2).toInt ∧ (z2).toInt ≤ 400 := by omega
        exact ke54 _ _ _ i2271 i2272 p2281
      · replace c2280 := q_neq c2280
        rw [li_0] at c2280
        have p2282 : (t1.1 0).toInt = N := by omega
        have p2283 : 0 ≤ (t1.1 1).toInt ∧ (t1.1 1).toInt ≤ N ∧ 0 ≤ (t1.1 2).toInt ∧ (t1.1 2).toInt ≤ (t1.1 1).toInt ∧ 0 ≤ (t1.1 5).toInt ∧ (t1.1 5).toInt ≤ 5000 := by omega
        have p2284 : 0 ≤ N ∧ N ≤ 400 := by omega
        have B2285 : tj (N) t1 := ⟨p2282, p2283, p2284⟩
        refine wq_X5_peek B2285 (fun r_11 u_12 q2286 q2287 q2288 q2289 q2290 q2291 q2292 q2293 q2294 q2295 => ?_)
        have := q2286.1
        have := q2286.2.1
        refine ⟨fun c2296 => ?_, fun c2297 => ?_⟩
        · replace c2296 := q_eq c2296
          rw [li_m1] at c2296
          have p2298 : (u_12.1 0).toInt = N := by omega
          have p2299 : 0 ≤ (u_12.1 1).toInt ∧ (u_12.1 1).toInt ≤ N + 1 ∧ 0 ≤ (u_12.1 2).toInt ∧ (u_12.1 2).toInt ≤ (u_12.1 1).toInt ∧ ((u_12.1 5).toInt ≠ 0 ∨ (u_12.1 1).toInt ≤ N) ∧ 0 ≤ (u_12.1 5).toInt ∧ (u_12.1 5).toInt ≤ 5000 := by omega
          have p2300 : 0 ≤ N ∧ N ≤ 400 := by omega
          have B2301 : tk (N) u_12 := ⟨p2298, p2299, p2300⟩
          have p2302 : 0 ≤ (z2).toInt ∧ (z2).toInt ≤ 400 := by omega
          exact ke54 _ _ _ i2271 B2301 p2302
        · replace c2297 := q_neq c2297
          rw [li_m1] at c2297
          have p2303 : ¬ ((59 : Int32)).toInt = -1 := by (have := li_59; omega)
          refine wq_X5_takeByte q2286 p2303 (fun u_15 q2304 q2305 q2306 q2307 => ?_)
          have := q2304.1
          have := q2304.2.1
          refine wq_X1_readPart i2271 q2304 (fun u_17a u_17b q2308 q2309 => ?_)
          have := q2308.1
          have := q2308.2.1
          have := q2308.2.2.1
          have := q2308.2.2.2.2.2.2.2.2.2
          have := q2309.1
          have := q2309.2.1
          have e2310 := tq_addr li_1 z2
          try rw [Int.emod_eq_of_lt (show 0 ≤ (z2).toInt + 1 + 2147483648 by omega) (show (z2).toInt + 1 + 2147483648 < 4294967296 by omega)] at e2310
          have p2311 : 0 ≤ (z2 + 1).toInt ∧ (z2 + 1).toInt ≤ 400 := by omega
          have p2312 : 400 - (z2 + 1).toInt < ((n : Nat) : Int) := by (omega)
          exact ih _ _ _ q2308 q2309 p2311 p2312
theorem wq_X1_readInto {post : Bd → Tp → Prop} {s0 : Bd} {s1 : Tp} {R W N : Int} (h2313 : bi (R) (W) s0) (h2314 : tz (N) s1) (k : ∀ (ua : Bd) (ub : Tp) (R2 W2 : Int), bi (R2) (W2) ua → tk (N) ub → post ua ub) : wp_X1_readInto post s0 s1 := by
  unfold wp_X1_readInto
  have := h2313.1
  have := h2313.2.1
  have := h2313.2.2.1
  have := h2313.2.2.2.1
  have := h2313.2.2.2.2.2.2.2.2.2
  have := h2314.1
  have := h2314.2
  refine wq_X0_clear h2313 (fun u_2 q2315 => ?_)
  have := q2315.1
  have := q2315.2.1
  have := q2315.2.2.1
  have := q2315.2.2.2.1
  have := q2315.2.2.2.2.2.2.2.2.2
  refine wq_X5_startReading h2314 (fun u_4 q2316 q2317 => ?_)
  have := q2316.1
  have := q2316.2.1
  refine wq_X1_readHead q2315 q2316 (fun u_6a u_6b R22318 W22319 q2320 q2321 => ?_)
  have := q2320.1
  have := q2320.2.1
  have := q2320.2.2.1
  have := q2320.2.2.2.1
  have := q2320.2.2.2.2.2.2.2.2.2
  have := q2321.1
  have := q2321.2.1
  have p2322 : (u_6b.1 0).toInt = N := by omega
  have p2323 : 0 ≤ (u_6b.1 1).toInt ∧ (u_6b.1 1).toInt ≤ N + 1 ∧ 0 ≤ (u_6b.1 2).toInt ∧ (u_6b.1 2).toInt ≤ (u_6b.1 1).toInt ∧ ((u_6b.1 5).toInt ≠ 0 ∨ (u_6b.1 1).toInt ≤ N) ∧ 0 ≤ (u_6b.1 5).toInt ∧ (u_6b.1 5).toInt ≤ 5000 := by omega
  have p2324 : 0 ≤ N ∧ N ≤ 400 := by omega
  have B2325 : tk (N) u_6b := ⟨p2322, p2323, p2324⟩
  have p2326 : 0 ≤ (0 : Int32).toInt ∧ (0 : Int32).toInt ≤ 400 := by (have := li_0; omega)
  obtain ⟨f2327, g2328⟩ := fu_e 500
  have p2329 : 400 - (0 : Int32).toInt < (f2327 : Int) := by (have := li_0; omega)
  refine ⟨f2327, wq_X1_readInto_L15 (fun t0 t1 z2 q2330 q2331 q2332 => ?_) f2327 _ _ _ q2320 B2325 p2326 p2329⟩
  have := q2330.1
  have := q2330.2.1
  have := q2330.2.2.1
  have := q2330.2.2.2.2.2.2.2.2.2
  have := q2331.1
  have := q2331.2.1
  refine ⟨fun c2333 => ?_, fun c2334 => ?_⟩
  · replace c2333 := q_neq c2333
    rw [li_0] at c2333
    exact k _ _ (R22318) (W22319) q2330 q2331
  · replace c2334 := q_eq c2334
    rw [li_0] at c2334
    have p2335 : 0 ≤ (t1.1 0).toInt ∧ (t1.1 0).toInt ≤ 500 ∧ 1 ≤ ((4 : Int32)).toInt ∧ ((4 : Int32)).toInt ≤ 4 := by (have := li_4; omega)
    refine wq_X5_blame q2331 p2335 (fun u_20 q2336 q2337 q2338 q2339 q2340 q2341 => ?_)
    have := q2336.1
    have := q2336.2.1
    exact k _ _ (R22318) (W22319) q2330 q2336
