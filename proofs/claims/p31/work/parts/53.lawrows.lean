noncomputable def sL_law_2073 : List Nat := 172 :: []
noncomputable def sL_law_2072 : List Nat := 4 :: sL_law_2073
noncomputable def sL_law_2069 : List Nat := 167 :: 248 :: 2 :: sL_law_2072
noncomputable def sL_law_2066 : List Nat := 132 :: 4 :: 6 :: sL_law_2069
noncomputable def sL_law_2063 : List Nat := 167 :: 0 :: 3 :: sL_law_2066
noncomputable def sL_law_2061 : List Nat := 54 :: 6 :: sL_law_2063
noncomputable def sL_law_2058 : List Nat := 182 :: 1 :: 11 :: sL_law_2061
noncomputable def sL_law_2057 : List Nat := 46 :: sL_law_2058
noncomputable def sL_law_2056 : List Nat := 96 :: sL_law_2057
noncomputable def sL_law_2055 : List Nat := 5 :: sL_law_2056
noncomputable def sL_law_2053 : List Nat := 21 :: 4 :: sL_law_2055
noncomputable def sL_law_2052 : List Nat := 42 :: sL_law_2053
noncomputable def sL_law_2051 : List Nat := 46 :: sL_law_2052
noncomputable def sL_law_2050 : List Nat := 96 :: sL_law_2051
noncomputable def sL_law_2049 : List Nat := 4 :: sL_law_2050
noncomputable def sL_law_2047 : List Nat := 21 :: 4 :: sL_law_2049
noncomputable def sL_law_2046 : List Nat := 42 :: sL_law_2047
noncomputable def sL_law_2045 : List Nat := 44 :: sL_law_2046
noncomputable def sL_law_2043 : List Nat := 54 :: 5 :: sL_law_2045
noncomputable def sL_law_2040 : List Nat := 184 :: 1 :: 9 :: sL_law_2043
noncomputable def sL_law_2039 : List Nat := 45 :: sL_law_2040
noncomputable def sL_law_2038 : List Nat := 46 :: sL_law_2039
noncomputable def sL_law_2037 : List Nat := 96 :: sL_law_2038
noncomputable def sL_law_2036 : List Nat := 5 :: sL_law_2037
noncomputable def sL_law_2034 : List Nat := 21 :: 4 :: sL_law_2036
noncomputable def sL_law_2033 : List Nat := 42 :: sL_law_2034
noncomputable def sL_law_2032 : List Nat := 46 :: sL_law_2033
noncomputable def sL_law_2031 : List Nat := 96 :: sL_law_2032
noncomputable def sL_law_2030 : List Nat := 4 :: sL_law_2031
noncomputable def sL_law_2028 : List Nat := 21 :: 4 :: sL_law_2030
noncomputable def sL_law_2027 : List Nat := 42 :: sL_law_2028
noncomputable def sL_law_2026 : List Nat := 43 :: sL_law_2027
noncomputable def sL_law_2023 : List Nat := 167 :: 0 :: 43 :: sL_law_2026
noncomputable def sL_law_2021 : List Nat := 54 :: 6 :: sL_law_2023
noncomputable def sL_law_2018 : List Nat := 182 :: 1 :: 8 :: sL_law_2021
noncomputable def sL_law_2017 : List Nat := 46 :: sL_law_2018
noncomputable def sL_law_2016 : List Nat := 96 :: sL_law_2017
noncomputable def sL_law_2015 : List Nat := 4 :: sL_law_2016
noncomputable def sL_law_2013 : List Nat := 21 :: 4 :: sL_law_2015
noncomputable def sL_law_2012 : List Nat := 42 :: sL_law_2013
noncomputable def sL_law_2011 : List Nat := 44 :: sL_law_2012
noncomputable def sL_law_2009 : List Nat := 54 :: 5 :: sL_law_2011
noncomputable def sL_law_2006 : List Nat := 184 :: 1 :: 6 :: sL_law_2009
noncomputable def sL_law_2005 : List Nat := 45 :: sL_law_2006
noncomputable def sL_law_2004 : List Nat := 46 :: sL_law_2005
noncomputable def sL_law_2003 : List Nat := 96 :: sL_law_2004
noncomputable def sL_law_2002 : List Nat := 4 :: sL_law_2003
noncomputable def sL_law_2000 : List Nat := 21 :: 4 :: sL_law_2002
noncomputable def sL_law_1999 : List Nat := 42 :: sL_law_2000
noncomputable def sL_law_1998 : List Nat := 43 :: sL_law_1999
noncomputable def sL_law_1995 : List Nat := 167 :: 0 :: 71 :: sL_law_1998
noncomputable def sL_law_1993 : List Nat := 54 :: 6 :: sL_law_1995
noncomputable def sL_law_1990 : List Nat := 182 :: 1 :: 5 :: sL_law_1993
noncomputable def sL_law_1989 : List Nat := 46 :: sL_law_1990
noncomputable def sL_law_1988 : List Nat := 96 :: sL_law_1989
noncomputable def sL_law_1987 : List Nat := 5 :: sL_law_1988
noncomputable def sL_law_1985 : List Nat := 21 :: 4 :: sL_law_1987
noncomputable def sL_law_1984 : List Nat := 42 :: sL_law_1985
noncomputable def sL_law_1983 : List Nat := 46 :: sL_law_1984
noncomputable def sL_law_1982 : List Nat := 96 :: sL_law_1983
noncomputable def sL_law_1981 : List Nat := 4 :: sL_law_1982
noncomputable def sL_law_1979 : List Nat := 21 :: 4 :: sL_law_1981
noncomputable def sL_law_1978 : List Nat := 42 :: sL_law_1979
noncomputable def sL_law_1977 : List Nat := 44 :: sL_law_1978
noncomputable def sL_law_1975 : List Nat := 54 :: 5 :: sL_law_1977
noncomputable def sL_law_1972 : List Nat := 184 :: 1 :: 3 :: sL_law_1975
noncomputable def sL_law_1971 : List Nat := 45 :: sL_law_1972
noncomputable def sL_law_1970 : List Nat := 46 :: sL_law_1971
noncomputable def sL_law_1969 : List Nat := 96 :: sL_law_1970
noncomputable def sL_law_1968 : List Nat := 5 :: sL_law_1969
noncomputable def sL_law_1966 : List Nat := 21 :: 4 :: sL_law_1968
noncomputable def sL_law_1965 : List Nat := 42 :: sL_law_1966
noncomputable def sL_law_1964 : List Nat := 46 :: sL_law_1965
noncomputable def sL_law_1963 : List Nat := 96 :: sL_law_1964
noncomputable def sL_law_1962 : List Nat := 4 :: sL_law_1963
noncomputable def sL_law_1960 : List Nat := 21 :: 4 :: sL_law_1962
noncomputable def sL_law_1959 : List Nat := 42 :: sL_law_1960
noncomputable def sL_law_1958 : List Nat := 43 :: sL_law_1959
noncomputable def sL_law_1955 : List Nat := 167 :: 0 :: 111 :: sL_law_1958
noncomputable def sL_law_1953 : List Nat := 54 :: 6 :: sL_law_1955
noncomputable def sL_law_1950 : List Nat := 182 :: 1 :: 2 :: sL_law_1953
noncomputable def sL_law_1949 : List Nat := 46 :: sL_law_1950
noncomputable def sL_law_1948 : List Nat := 96 :: sL_law_1949
noncomputable def sL_law_1947 : List Nat := 6 :: sL_law_1948
noncomputable def sL_law_1945 : List Nat := 21 :: 4 :: sL_law_1947
noncomputable def sL_law_1944 : List Nat := 42 :: sL_law_1945
noncomputable def sL_law_1943 : List Nat := 46 :: sL_law_1944
noncomputable def sL_law_1942 : List Nat := 96 :: sL_law_1943
noncomputable def sL_law_1941 : List Nat := 5 :: sL_law_1942
noncomputable def sL_law_1939 : List Nat := 21 :: 4 :: sL_law_1941
noncomputable def sL_law_1938 : List Nat := 42 :: sL_law_1939
noncomputable def sL_law_1937 : List Nat := 46 :: sL_law_1938
noncomputable def sL_law_1936 : List Nat := 96 :: sL_law_1937
noncomputable def sL_law_1935 : List Nat := 4 :: sL_law_1936
noncomputable def sL_law_1933 : List Nat := 21 :: 4 :: sL_law_1935
noncomputable def sL_law_1932 : List Nat := 42 :: sL_law_1933
noncomputable def sL_law_1931 : List Nat := 44 :: sL_law_1932
noncomputable def sL_law_1929 : List Nat := 54 :: 5 :: sL_law_1931
noncomputable def sL_law_1926 : List Nat := 184 :: 1 :: 0 :: sL_law_1929
noncomputable def sL_law_1925 : List Nat := 45 :: sL_law_1926
noncomputable def sL_law_1924 : List Nat := 46 :: sL_law_1925
noncomputable def sL_law_1923 : List Nat := 96 :: sL_law_1924
noncomputable def sL_law_1922 : List Nat := 6 :: sL_law_1923
noncomputable def sL_law_1920 : List Nat := 21 :: 4 :: sL_law_1922
noncomputable def sL_law_1919 : List Nat := 42 :: sL_law_1920
noncomputable def sL_law_1918 : List Nat := 46 :: sL_law_1919
noncomputable def sL_law_1917 : List Nat := 96 :: sL_law_1918
noncomputable def sL_law_1916 : List Nat := 5 :: sL_law_1917
noncomputable def sL_law_1914 : List Nat := 21 :: 4 :: sL_law_1916
noncomputable def sL_law_1913 : List Nat := 42 :: sL_law_1914
noncomputable def sL_law_1912 : List Nat := 46 :: sL_law_1913
noncomputable def sL_law_1911 : List Nat := 96 :: sL_law_1912
noncomputable def sL_law_1910 : List Nat := 4 :: sL_law_1911
noncomputable def sL_law_1908 : List Nat := 21 :: 4 :: sL_law_1910
noncomputable def sL_law_1907 : List Nat := 42 :: sL_law_1908
noncomputable def sL_law_1906 : List Nat := 43 :: sL_law_1907
noncomputable def sL_law_1903 : List Nat := 167 :: 0 :: 163 :: sL_law_1906
noncomputable def sL_law_1901 : List Nat := 54 :: 6 :: sL_law_1903
noncomputable def sL_law_1898 : List Nat := 182 :: 0 :: 255 :: sL_law_1901
noncomputable def sL_law_1897 : List Nat := 46 :: sL_law_1898
noncomputable def sL_law_1896 : List Nat := 96 :: sL_law_1897
noncomputable def sL_law_1895 : List Nat := 4 :: sL_law_1896
noncomputable def sL_law_1893 : List Nat := 21 :: 4 :: sL_law_1895
noncomputable def sL_law_1892 : List Nat := 42 :: sL_law_1893
noncomputable def sL_law_1891 : List Nat := 44 :: sL_law_1892
noncomputable def sL_law_1889 : List Nat := 54 :: 5 :: sL_law_1891
noncomputable def sL_law_1886 : List Nat := 184 :: 0 :: 253 :: sL_law_1889
noncomputable def sL_law_1885 : List Nat := 45 :: sL_law_1886
noncomputable def sL_law_1884 : List Nat := 46 :: sL_law_1885
noncomputable def sL_law_1883 : List Nat := 96 :: sL_law_1884
noncomputable def sL_law_1882 : List Nat := 4 :: sL_law_1883
noncomputable def sL_law_1880 : List Nat := 21 :: 4 :: sL_law_1882
noncomputable def sL_law_1879 : List Nat := 42 :: sL_law_1880
noncomputable def sL_law_1878 : List Nat := 43 :: sL_law_1879
noncomputable def sL_law_1875 : List Nat := 167 :: 0 :: 191 :: sL_law_1878
noncomputable def sL_law_1874 : List Nat := 87 :: sL_law_1875
noncomputable def sL_law_1871 : List Nat := 182 :: 0 :: 252 :: sL_law_1874
noncomputable def sL_law_1870 : List Nat := 44 :: sL_law_1871
noncomputable def sL_law_1869 : List Nat := 87 :: sL_law_1870
noncomputable def sL_law_1866 : List Nat := 182 :: 0 :: 249 :: sL_law_1869
noncomputable def sL_law_1865 : List Nat := 43 :: sL_law_1866
noncomputable def sL_law_1862 : List Nat := 167 :: 0 :: 204 :: sL_law_1865
noncomputable def sL_law_1860 : List Nat := 54 :: 6 :: sL_law_1862
noncomputable def sL_law_1857 : List Nat := 182 :: 0 :: 248 :: sL_law_1860
noncomputable def sL_law_1856 : List Nat := 46 :: sL_law_1857
noncomputable def sL_law_1855 : List Nat := 96 :: sL_law_1856
noncomputable def sL_law_1854 : List Nat := 5 :: sL_law_1855
noncomputable def sL_law_1852 : List Nat := 21 :: 4 :: sL_law_1854
noncomputable def sL_law_1851 : List Nat := 42 :: sL_law_1852
noncomputable def sL_law_1850 : List Nat := 46 :: sL_law_1851
noncomputable def sL_law_1849 : List Nat := 96 :: sL_law_1850
noncomputable def sL_law_1848 : List Nat := 4 :: sL_law_1849
noncomputable def sL_law_1846 : List Nat := 21 :: 4 :: sL_law_1848
noncomputable def sL_law_1845 : List Nat := 42 :: sL_law_1846
noncomputable def sL_law_1844 : List Nat := 44 :: sL_law_1845
noncomputable def sL_law_1842 : List Nat := 54 :: 5 :: sL_law_1844
noncomputable def sL_law_1839 : List Nat := 184 :: 0 :: 246 :: sL_law_1842
noncomputable def sL_law_1838 : List Nat := 45 :: sL_law_1839
noncomputable def sL_law_1837 : List Nat := 46 :: sL_law_1838
noncomputable def sL_law_1836 : List Nat := 96 :: sL_law_1837
noncomputable def sL_law_1835 : List Nat := 5 :: sL_law_1836
noncomputable def sL_law_1833 : List Nat := 21 :: 4 :: sL_law_1835
noncomputable def sL_law_1832 : List Nat := 42 :: sL_law_1833
noncomputable def sL_law_1831 : List Nat := 46 :: sL_law_1832
noncomputable def sL_law_1830 : List Nat := 96 :: sL_law_1831
noncomputable def sL_law_1829 : List Nat := 4 :: sL_law_1830
noncomputable def sL_law_1827 : List Nat := 21 :: 4 :: sL_law_1829
noncomputable def sL_law_1826 : List Nat := 42 :: sL_law_1827
noncomputable def sL_law_1825 : List Nat := 43 :: sL_law_1826
noncomputable def sL_law_1822 : List Nat := 167 :: 0 :: 244 :: sL_law_1825
noncomputable def sL_law_1820 : List Nat := 54 :: 6 :: sL_law_1822
noncomputable def sL_law_1817 : List Nat := 182 :: 0 :: 245 :: sL_law_1820
noncomputable def sL_law_1816 : List Nat := 46 :: sL_law_1817
noncomputable def sL_law_1815 : List Nat := 96 :: sL_law_1816
noncomputable def sL_law_1814 : List Nat := 6 :: sL_law_1815
noncomputable def sL_law_1812 : List Nat := 21 :: 4 :: sL_law_1814
noncomputable def sL_law_1811 : List Nat := 42 :: sL_law_1812
noncomputable def sL_law_1810 : List Nat := 46 :: sL_law_1811
noncomputable def sL_law_1809 : List Nat := 96 :: sL_law_1810
noncomputable def sL_law_1808 : List Nat := 5 :: sL_law_1809
noncomputable def sL_law_1806 : List Nat := 21 :: 4 :: sL_law_1808
noncomputable def sL_law_1805 : List Nat := 42 :: sL_law_1806
noncomputable def sL_law_1804 : List Nat := 46 :: sL_law_1805
noncomputable def sL_law_1803 : List Nat := 96 :: sL_law_1804
noncomputable def sL_law_1802 : List Nat := 4 :: sL_law_1803
noncomputable def sL_law_1800 : List Nat := 21 :: 4 :: sL_law_1802
noncomputable def sL_law_1799 : List Nat := 42 :: sL_law_1800
noncomputable def sL_law_1798 : List Nat := 44 :: sL_law_1799
noncomputable def sL_law_1796 : List Nat := 54 :: 5 :: sL_law_1798
noncomputable def sL_law_1793 : List Nat := 184 :: 0 :: 243 :: sL_law_1796
noncomputable def sL_law_1792 : List Nat := 45 :: sL_law_1793
noncomputable def sL_law_1791 : List Nat := 46 :: sL_law_1792
noncomputable def sL_law_1790 : List Nat := 96 :: sL_law_1791
noncomputable def sL_law_1789 : List Nat := 6 :: sL_law_1790
noncomputable def sL_law_1787 : List Nat := 21 :: 4 :: sL_law_1789
noncomputable def sL_law_1786 : List Nat := 42 :: sL_law_1787
noncomputable def sL_law_1785 : List Nat := 46 :: sL_law_1786
noncomputable def sL_law_1784 : List Nat := 96 :: sL_law_1785
noncomputable def sL_law_1783 : List Nat := 5 :: sL_law_1784
noncomputable def sL_law_1781 : List Nat := 21 :: 4 :: sL_law_1783
noncomputable def sL_law_1780 : List Nat := 42 :: sL_law_1781
noncomputable def sL_law_1779 : List Nat := 46 :: sL_law_1780
noncomputable def sL_law_1778 : List Nat := 96 :: sL_law_1779
noncomputable def sL_law_1777 : List Nat := 4 :: sL_law_1778
noncomputable def sL_law_1775 : List Nat := 21 :: 4 :: sL_law_1777
noncomputable def sL_law_1774 : List Nat := 42 :: sL_law_1775
noncomputable def sL_law_1773 : List Nat := 43 :: sL_law_1774
noncomputable def sL_law_1770 : List Nat := 167 :: 1 :: 40 :: sL_law_1773
noncomputable def sL_law_1768 : List Nat := 54 :: 6 :: sL_law_1770
noncomputable def sL_law_1765 : List Nat := 182 :: 0 :: 242 :: sL_law_1768
noncomputable def sL_law_1764 : List Nat := 46 :: sL_law_1765
noncomputable def sL_law_1763 : List Nat := 96 :: sL_law_1764
noncomputable def sL_law_1762 : List Nat := 6 :: sL_law_1763
noncomputable def sL_law_1760 : List Nat := 21 :: 4 :: sL_law_1762
noncomputable def sL_law_1759 : List Nat := 42 :: sL_law_1760
noncomputable def sL_law_1758 : List Nat := 46 :: sL_law_1759
noncomputable def sL_law_1757 : List Nat := 96 :: sL_law_1758
noncomputable def sL_law_1756 : List Nat := 5 :: sL_law_1757
noncomputable def sL_law_1754 : List Nat := 21 :: 4 :: sL_law_1756
noncomputable def sL_law_1753 : List Nat := 42 :: sL_law_1754
noncomputable def sL_law_1752 : List Nat := 46 :: sL_law_1753
noncomputable def sL_law_1751 : List Nat := 96 :: sL_law_1752
noncomputable def sL_law_1750 : List Nat := 4 :: sL_law_1751
noncomputable def sL_law_1748 : List Nat := 21 :: 4 :: sL_law_1750
noncomputable def sL_law_1747 : List Nat := 42 :: sL_law_1748
noncomputable def sL_law_1746 : List Nat := 44 :: sL_law_1747
noncomputable def sL_law_1744 : List Nat := 54 :: 5 :: sL_law_1746
noncomputable def sL_law_1741 : List Nat := 184 :: 0 :: 240 :: sL_law_1744
noncomputable def sL_law_1740 : List Nat := 45 :: sL_law_1741
noncomputable def sL_law_1739 : List Nat := 46 :: sL_law_1740
noncomputable def sL_law_1738 : List Nat := 96 :: sL_law_1739
noncomputable def sL_law_1737 : List Nat := 6 :: sL_law_1738
noncomputable def sL_law_1735 : List Nat := 21 :: 4 :: sL_law_1737
noncomputable def sL_law_1734 : List Nat := 42 :: sL_law_1735
noncomputable def sL_law_1733 : List Nat := 46 :: sL_law_1734
noncomputable def sL_law_1732 : List Nat := 96 :: sL_law_1733
noncomputable def sL_law_1731 : List Nat := 5 :: sL_law_1732
noncomputable def sL_law_1729 : List Nat := 21 :: 4 :: sL_law_1731
noncomputable def sL_law_1728 : List Nat := 42 :: sL_law_1729
noncomputable def sL_law_1727 : List Nat := 46 :: sL_law_1728
noncomputable def sL_law_1726 : List Nat := 96 :: sL_law_1727
noncomputable def sL_law_1725 : List Nat := 4 :: sL_law_1726
noncomputable def sL_law_1723 : List Nat := 21 :: 4 :: sL_law_1725
noncomputable def sL_law_1722 : List Nat := 42 :: sL_law_1723
noncomputable def sL_law_1721 : List Nat := 43 :: sL_law_1722
noncomputable def sL_law_1718 : List Nat := 167 :: 1 :: 92 :: sL_law_1721
noncomputable def sL_law_1716 : List Nat := 54 :: 6 :: sL_law_1718
noncomputable def sL_law_1713 : List Nat := 182 :: 0 :: 239 :: sL_law_1716
noncomputable def sL_law_1712 : List Nat := 46 :: sL_law_1713
noncomputable def sL_law_1711 : List Nat := 96 :: sL_law_1712
noncomputable def sL_law_1710 : List Nat := 5 :: sL_law_1711
noncomputable def sL_law_1708 : List Nat := 21 :: 4 :: sL_law_1710
noncomputable def sL_law_1707 : List Nat := 42 :: sL_law_1708
noncomputable def sL_law_1706 : List Nat := 46 :: sL_law_1707
noncomputable def sL_law_1705 : List Nat := 96 :: sL_law_1706
noncomputable def sL_law_1704 : List Nat := 4 :: sL_law_1705
noncomputable def sL_law_1702 : List Nat := 21 :: 4 :: sL_law_1704
noncomputable def sL_law_1701 : List Nat := 42 :: sL_law_1702
noncomputable def sL_law_1700 : List Nat := 44 :: sL_law_1701
noncomputable def sL_law_1698 : List Nat := 54 :: 5 :: sL_law_1700
noncomputable def sL_law_1695 : List Nat := 184 :: 0 :: 237 :: sL_law_1698
noncomputable def sL_law_1694 : List Nat := 45 :: sL_law_1695
noncomputable def sL_law_1693 : List Nat := 46 :: sL_law_1694
noncomputable def sL_law_1692 : List Nat := 96 :: sL_law_1693
noncomputable def sL_law_1691 : List Nat := 5 :: sL_law_1692
noncomputable def sL_law_1689 : List Nat := 21 :: 4 :: sL_law_1691
noncomputable def sL_law_1688 : List Nat := 42 :: sL_law_1689
noncomputable def sL_law_1687 : List Nat := 46 :: sL_law_1688
noncomputable def sL_law_1686 : List Nat := 96 :: sL_law_1687
noncomputable def sL_law_1685 : List Nat := 4 :: sL_law_1686
noncomputable def sL_law_1683 : List Nat := 21 :: 4 :: sL_law_1685
noncomputable def sL_law_1682 : List Nat := 42 :: sL_law_1683
noncomputable def sL_law_1681 : List Nat := 43 :: sL_law_1682
noncomputable def sL_law_1678 : List Nat := 167 :: 1 :: 132 :: sL_law_1681
noncomputable def sL_law_1677 : List Nat := 172 :: sL_law_1678
noncomputable def sL_law_1676 : List Nat := 3 :: sL_law_1677
noncomputable def sL_law_1673 : List Nat := 153 :: 0 :: 5 :: sL_law_1676
noncomputable def sL_law_1672 : List Nat := 148 :: sL_law_1673
noncomputable def sL_law_1671 : List Nat := 133 :: sL_law_1672
noncomputable def sL_law_1669 : List Nat := 21 :: 6 :: sL_law_1671
noncomputable def sL_law_1668 : List Nat := 47 :: sL_law_1669
noncomputable def sL_law_1667 : List Nat := 3 :: sL_law_1668
noncomputable def sL_law_1666 : List Nat := 45 :: sL_law_1667
noncomputable def sL_law_1663 : List Nat := 154 :: 0 :: 15 :: sL_law_1666
noncomputable def sL_law_1661 : List Nat := 21 :: 5 :: sL_law_1663
noncomputable def sL_law_1660 : List Nat := 172 :: sL_law_1661
noncomputable def sL_law_1659 : List Nat := 3 :: sL_law_1660
noncomputable def sL_law_1656 : List Nat := 159 :: 0 :: 5 :: sL_law_1659
noncomputable def sL_law_1654 : List Nat := 21 :: 5 :: sL_law_1656
noncomputable def sL_law_1651 : List Nat := 182 :: 0 :: 234 :: sL_law_1654
noncomputable def sL_law_1650 : List Nat := 44 :: sL_law_1651
noncomputable def sL_law_1648 : List Nat := 54 :: 6 :: sL_law_1650
noncomputable def sL_law_1645 : List Nat := 182 :: 0 :: 233 :: sL_law_1648
noncomputable def sL_law_1644 : List Nat := 46 :: sL_law_1645
noncomputable def sL_law_1643 : List Nat := 96 :: sL_law_1644
noncomputable def sL_law_1642 : List Nat := 6 :: sL_law_1643
noncomputable def sL_law_1640 : List Nat := 21 :: 4 :: sL_law_1642
noncomputable def sL_law_1639 : List Nat := 42 :: sL_law_1640
noncomputable def sL_law_1638 : List Nat := 46 :: sL_law_1639
noncomputable def sL_law_1637 : List Nat := 96 :: sL_law_1638
noncomputable def sL_law_1636 : List Nat := 5 :: sL_law_1637
noncomputable def sL_law_1634 : List Nat := 21 :: 4 :: sL_law_1636
noncomputable def sL_law_1633 : List Nat := 42 :: sL_law_1634
noncomputable def sL_law_1632 : List Nat := 46 :: sL_law_1633
noncomputable def sL_law_1631 : List Nat := 96 :: sL_law_1632
noncomputable def sL_law_1630 : List Nat := 4 :: sL_law_1631
noncomputable def sL_law_1628 : List Nat := 21 :: 4 :: sL_law_1630
noncomputable def sL_law_1627 : List Nat := 42 :: sL_law_1628
noncomputable def sL_law_1626 : List Nat := 44 :: sL_law_1627
noncomputable def sL_law_1624 : List Nat := 54 :: 5 :: sL_law_1626
noncomputable def sL_law_1621 : List Nat := 184 :: 0 :: 231 :: sL_law_1624
noncomputable def sL_law_1620 : List Nat := 45 :: sL_law_1621
noncomputable def sL_law_1619 : List Nat := 46 :: sL_law_1620
noncomputable def sL_law_1618 : List Nat := 96 :: sL_law_1619
noncomputable def sL_law_1617 : List Nat := 6 :: sL_law_1618
noncomputable def sL_law_1615 : List Nat := 21 :: 4 :: sL_law_1617
noncomputable def sL_law_1614 : List Nat := 42 :: sL_law_1615
noncomputable def sL_law_1613 : List Nat := 46 :: sL_law_1614
noncomputable def sL_law_1612 : List Nat := 96 :: sL_law_1613
noncomputable def sL_law_1611 : List Nat := 5 :: sL_law_1612
noncomputable def sL_law_1609 : List Nat := 21 :: 4 :: sL_law_1611
noncomputable def sL_law_1608 : List Nat := 42 :: sL_law_1609
noncomputable def sL_law_1607 : List Nat := 46 :: sL_law_1608
noncomputable def sL_law_1606 : List Nat := 96 :: sL_law_1607
noncomputable def sL_law_1605 : List Nat := 4 :: sL_law_1606
noncomputable def sL_law_1603 : List Nat := 21 :: 4 :: sL_law_1605
noncomputable def sL_law_1602 : List Nat := 42 :: sL_law_1603
noncomputable def sL_law_1601 : List Nat := 43 :: sL_law_1602
noncomputable def sL_law_1598 : List Nat := 167 :: 1 :: 212 :: sL_law_1601
noncomputable def sL_law_1596 : List Nat := 54 :: 6 :: sL_law_1598
noncomputable def sL_law_1593 : List Nat := 182 :: 0 :: 230 :: sL_law_1596
noncomputable def sL_law_1592 : List Nat := 46 :: sL_law_1593
noncomputable def sL_law_1591 : List Nat := 96 :: sL_law_1592
noncomputable def sL_law_1590 : List Nat := 5 :: sL_law_1591
noncomputable def sL_law_1588 : List Nat := 21 :: 4 :: sL_law_1590
noncomputable def sL_law_1587 : List Nat := 42 :: sL_law_1588
noncomputable def sL_law_1586 : List Nat := 46 :: sL_law_1587
noncomputable def sL_law_1585 : List Nat := 96 :: sL_law_1586
noncomputable def sL_law_1584 : List Nat := 4 :: sL_law_1585
noncomputable def sL_law_1582 : List Nat := 21 :: 4 :: sL_law_1584
noncomputable def sL_law_1581 : List Nat := 42 :: sL_law_1582
noncomputable def sL_law_1580 : List Nat := 44 :: sL_law_1581
noncomputable def sL_law_1578 : List Nat := 54 :: 5 :: sL_law_1580
noncomputable def sL_law_1575 : List Nat := 184 :: 0 :: 228 :: sL_law_1578
noncomputable def sL_law_1574 : List Nat := 45 :: sL_law_1575
noncomputable def sL_law_1573 : List Nat := 46 :: sL_law_1574
noncomputable def sL_law_1572 : List Nat := 96 :: sL_law_1573
noncomputable def sL_law_1571 : List Nat := 5 :: sL_law_1572
noncomputable def sL_law_1569 : List Nat := 21 :: 4 :: sL_law_1571
noncomputable def sL_law_1568 : List Nat := 42 :: sL_law_1569
noncomputable def sL_law_1567 : List Nat := 46 :: sL_law_1568
noncomputable def sL_law_1566 : List Nat := 96 :: sL_law_1567
noncomputable def sL_law_1565 : List Nat := 4 :: sL_law_1566
noncomputable def sL_law_1563 : List Nat := 21 :: 4 :: sL_law_1565
noncomputable def sL_law_1562 : List Nat := 42 :: sL_law_1563
noncomputable def sL_law_1561 : List Nat := 43 :: sL_law_1562
noncomputable def sL_law_1558 : List Nat := 167 :: 1 :: 252 :: sL_law_1561
noncomputable def sL_law_1556 : List Nat := 54 :: 6 :: sL_law_1558
noncomputable def sL_law_1553 : List Nat := 182 :: 0 :: 227 :: sL_law_1556
noncomputable def sL_law_1552 : List Nat := 46 :: sL_law_1553
noncomputable def sL_law_1551 : List Nat := 96 :: sL_law_1552
noncomputable def sL_law_1550 : List Nat := 6 :: sL_law_1551
noncomputable def sL_law_1548 : List Nat := 21 :: 4 :: sL_law_1550
noncomputable def sL_law_1547 : List Nat := 42 :: sL_law_1548
noncomputable def sL_law_1546 : List Nat := 46 :: sL_law_1547
noncomputable def sL_law_1545 : List Nat := 96 :: sL_law_1546
noncomputable def sL_law_1544 : List Nat := 5 :: sL_law_1545
noncomputable def sL_law_1542 : List Nat := 21 :: 4 :: sL_law_1544
noncomputable def sL_law_1541 : List Nat := 42 :: sL_law_1542
noncomputable def sL_law_1540 : List Nat := 46 :: sL_law_1541
noncomputable def sL_law_1539 : List Nat := 96 :: sL_law_1540
noncomputable def sL_law_1538 : List Nat := 4 :: sL_law_1539
noncomputable def sL_law_1536 : List Nat := 21 :: 4 :: sL_law_1538
noncomputable def sL_law_1535 : List Nat := 42 :: sL_law_1536
noncomputable def sL_law_1534 : List Nat := 44 :: sL_law_1535
noncomputable def sL_law_1532 : List Nat := 54 :: 5 :: sL_law_1534
noncomputable def sL_law_1529 : List Nat := 184 :: 0 :: 225 :: sL_law_1532
noncomputable def sL_law_1528 : List Nat := 45 :: sL_law_1529
noncomputable def sL_law_1527 : List Nat := 46 :: sL_law_1528
noncomputable def sL_law_1526 : List Nat := 96 :: sL_law_1527
noncomputable def sL_law_1525 : List Nat := 6 :: sL_law_1526
noncomputable def sL_law_1523 : List Nat := 21 :: 4 :: sL_law_1525
noncomputable def sL_law_1522 : List Nat := 42 :: sL_law_1523
noncomputable def sL_law_1521 : List Nat := 46 :: sL_law_1522
noncomputable def sL_law_1520 : List Nat := 96 :: sL_law_1521
noncomputable def sL_law_1519 : List Nat := 5 :: sL_law_1520
noncomputable def sL_law_1517 : List Nat := 21 :: 4 :: sL_law_1519
noncomputable def sL_law_1516 : List Nat := 42 :: sL_law_1517
noncomputable def sL_law_1515 : List Nat := 46 :: sL_law_1516
noncomputable def sL_law_1514 : List Nat := 96 :: sL_law_1515
noncomputable def sL_law_1513 : List Nat := 4 :: sL_law_1514
noncomputable def sL_law_1511 : List Nat := 21 :: 4 :: sL_law_1513
noncomputable def sL_law_1510 : List Nat := 42 :: sL_law_1511
noncomputable def sL_law_1509 : List Nat := 43 :: sL_law_1510
noncomputable def sL_law_1506 : List Nat := 167 :: 2 :: 48 :: sL_law_1509
noncomputable def sL_law_1504 : List Nat := 54 :: 6 :: sL_law_1506
noncomputable def sL_law_1501 : List Nat := 182 :: 0 :: 224 :: sL_law_1504
noncomputable def sL_law_1500 : List Nat := 46 :: sL_law_1501
noncomputable def sL_law_1499 : List Nat := 96 :: sL_law_1500
noncomputable def sL_law_1498 : List Nat := 7 :: sL_law_1499
noncomputable def sL_law_1496 : List Nat := 21 :: 4 :: sL_law_1498
noncomputable def sL_law_1495 : List Nat := 42 :: sL_law_1496
noncomputable def sL_law_1494 : List Nat := 46 :: sL_law_1495
noncomputable def sL_law_1493 : List Nat := 96 :: sL_law_1494
noncomputable def sL_law_1492 : List Nat := 6 :: sL_law_1493
noncomputable def sL_law_1490 : List Nat := 21 :: 4 :: sL_law_1492
noncomputable def sL_law_1489 : List Nat := 42 :: sL_law_1490
noncomputable def sL_law_1488 : List Nat := 46 :: sL_law_1489
noncomputable def sL_law_1487 : List Nat := 96 :: sL_law_1488
noncomputable def sL_law_1486 : List Nat := 5 :: sL_law_1487
noncomputable def sL_law_1484 : List Nat := 21 :: 4 :: sL_law_1486
noncomputable def sL_law_1483 : List Nat := 42 :: sL_law_1484
noncomputable def sL_law_1482 : List Nat := 46 :: sL_law_1483
noncomputable def sL_law_1481 : List Nat := 96 :: sL_law_1482
noncomputable def sL_law_1480 : List Nat := 4 :: sL_law_1481
noncomputable def sL_law_1478 : List Nat := 21 :: 4 :: sL_law_1480
noncomputable def sL_law_1477 : List Nat := 42 :: sL_law_1478
noncomputable def sL_law_1476 : List Nat := 44 :: sL_law_1477
noncomputable def sL_law_1474 : List Nat := 54 :: 5 :: sL_law_1476
noncomputable def sL_law_1471 : List Nat := 184 :: 0 :: 222 :: sL_law_1474
noncomputable def sL_law_1470 : List Nat := 45 :: sL_law_1471
noncomputable def sL_law_1469 : List Nat := 46 :: sL_law_1470
noncomputable def sL_law_1468 : List Nat := 96 :: sL_law_1469
noncomputable def sL_law_1467 : List Nat := 7 :: sL_law_1468
noncomputable def sL_law_1465 : List Nat := 21 :: 4 :: sL_law_1467
noncomputable def sL_law_1464 : List Nat := 42 :: sL_law_1465
noncomputable def sL_law_1463 : List Nat := 46 :: sL_law_1464
noncomputable def sL_law_1462 : List Nat := 96 :: sL_law_1463
noncomputable def sL_law_1461 : List Nat := 6 :: sL_law_1462
noncomputable def sL_law_1459 : List Nat := 21 :: 4 :: sL_law_1461
noncomputable def sL_law_1458 : List Nat := 42 :: sL_law_1459
noncomputable def sL_law_1457 : List Nat := 46 :: sL_law_1458
noncomputable def sL_law_1456 : List Nat := 96 :: sL_law_1457
noncomputable def sL_law_1455 : List Nat := 5 :: sL_law_1456
noncomputable def sL_law_1453 : List Nat := 21 :: 4 :: sL_law_1455
noncomputable def sL_law_1452 : List Nat := 42 :: sL_law_1453
noncomputable def sL_law_1451 : List Nat := 46 :: sL_law_1452
noncomputable def sL_law_1450 : List Nat := 96 :: sL_law_1451
noncomputable def sL_law_1449 : List Nat := 4 :: sL_law_1450
noncomputable def sL_law_1447 : List Nat := 21 :: 4 :: sL_law_1449
noncomputable def sL_law_1446 : List Nat := 42 :: sL_law_1447
noncomputable def sL_law_1445 : List Nat := 43 :: sL_law_1446
noncomputable def sL_law_1442 : List Nat := 167 :: 2 :: 112 :: sL_law_1445
noncomputable def sL_law_1440 : List Nat := 54 :: 6 :: sL_law_1442
noncomputable def sL_law_1437 : List Nat := 182 :: 0 :: 221 :: sL_law_1440
noncomputable def sL_law_1436 : List Nat := 46 :: sL_law_1437
noncomputable def sL_law_1435 : List Nat := 96 :: sL_law_1436
noncomputable def sL_law_1434 : List Nat := 8 :: sL_law_1435
noncomputable def sL_law_1432 : List Nat := 21 :: 4 :: sL_law_1434
noncomputable def sL_law_1431 : List Nat := 42 :: sL_law_1432
noncomputable def sL_law_1430 : List Nat := 46 :: sL_law_1431
noncomputable def sL_law_1429 : List Nat := 96 :: sL_law_1430
noncomputable def sL_law_1428 : List Nat := 7 :: sL_law_1429
noncomputable def sL_law_1426 : List Nat := 21 :: 4 :: sL_law_1428
noncomputable def sL_law_1425 : List Nat := 42 :: sL_law_1426
noncomputable def sL_law_1424 : List Nat := 46 :: sL_law_1425
noncomputable def sL_law_1423 : List Nat := 96 :: sL_law_1424
noncomputable def sL_law_1422 : List Nat := 6 :: sL_law_1423
noncomputable def sL_law_1420 : List Nat := 21 :: 4 :: sL_law_1422
noncomputable def sL_law_1419 : List Nat := 42 :: sL_law_1420
noncomputable def sL_law_1418 : List Nat := 46 :: sL_law_1419
noncomputable def sL_law_1417 : List Nat := 96 :: sL_law_1418
noncomputable def sL_law_1416 : List Nat := 5 :: sL_law_1417
noncomputable def sL_law_1414 : List Nat := 21 :: 4 :: sL_law_1416
noncomputable def sL_law_1413 : List Nat := 42 :: sL_law_1414
noncomputable def sL_law_1412 : List Nat := 46 :: sL_law_1413
noncomputable def sL_law_1411 : List Nat := 96 :: sL_law_1412
noncomputable def sL_law_1410 : List Nat := 4 :: sL_law_1411
noncomputable def sL_law_1408 : List Nat := 21 :: 4 :: sL_law_1410
noncomputable def sL_law_1407 : List Nat := 42 :: sL_law_1408
noncomputable def sL_law_1406 : List Nat := 44 :: sL_law_1407
noncomputable def sL_law_1404 : List Nat := 54 :: 5 :: sL_law_1406
noncomputable def sL_law_1401 : List Nat := 184 :: 0 :: 219 :: sL_law_1404
noncomputable def sL_law_1400 : List Nat := 45 :: sL_law_1401
noncomputable def sL_law_1399 : List Nat := 46 :: sL_law_1400
noncomputable def sL_law_1398 : List Nat := 96 :: sL_law_1399
noncomputable def sL_law_1397 : List Nat := 8 :: sL_law_1398
noncomputable def sL_law_1395 : List Nat := 21 :: 4 :: sL_law_1397
noncomputable def sL_law_1394 : List Nat := 42 :: sL_law_1395
noncomputable def sL_law_1393 : List Nat := 46 :: sL_law_1394
noncomputable def sL_law_1392 : List Nat := 96 :: sL_law_1393
noncomputable def sL_law_1391 : List Nat := 7 :: sL_law_1392
noncomputable def sL_law_1389 : List Nat := 21 :: 4 :: sL_law_1391
noncomputable def sL_law_1388 : List Nat := 42 :: sL_law_1389
noncomputable def sL_law_1387 : List Nat := 46 :: sL_law_1388
noncomputable def sL_law_1386 : List Nat := 96 :: sL_law_1387
noncomputable def sL_law_1385 : List Nat := 6 :: sL_law_1386
noncomputable def sL_law_1383 : List Nat := 21 :: 4 :: sL_law_1385
noncomputable def sL_law_1382 : List Nat := 42 :: sL_law_1383
noncomputable def sL_law_1381 : List Nat := 46 :: sL_law_1382
noncomputable def sL_law_1380 : List Nat := 96 :: sL_law_1381
noncomputable def sL_law_1379 : List Nat := 5 :: sL_law_1380
noncomputable def sL_law_1377 : List Nat := 21 :: 4 :: sL_law_1379
noncomputable def sL_law_1376 : List Nat := 42 :: sL_law_1377
noncomputable def sL_law_1375 : List Nat := 46 :: sL_law_1376
noncomputable def sL_law_1374 : List Nat := 96 :: sL_law_1375
noncomputable def sL_law_1373 : List Nat := 4 :: sL_law_1374
noncomputable def sL_law_1371 : List Nat := 21 :: 4 :: sL_law_1373
noncomputable def sL_law_1370 : List Nat := 42 :: sL_law_1371
noncomputable def sL_law_1369 : List Nat := 43 :: sL_law_1370
noncomputable def sL_law_1366 : List Nat := 167 :: 2 :: 188 :: sL_law_1369
noncomputable def sL_law_1365 : List Nat := 87 :: sL_law_1366
noncomputable def sL_law_1362 : List Nat := 182 :: 0 :: 218 :: sL_law_1365
noncomputable def sL_law_1361 : List Nat := 44 :: sL_law_1362
noncomputable def sL_law_1360 : List Nat := 87 :: sL_law_1361
noncomputable def sL_law_1357 : List Nat := 182 :: 0 :: 215 :: sL_law_1360
noncomputable def sL_law_1356 : List Nat := 43 :: sL_law_1357
noncomputable def sL_law_1353 : List Nat := 167 :: 2 :: 201 :: sL_law_1356
noncomputable def sL_law_1352 : List Nat := 87 :: sL_law_1353
noncomputable def sL_law_1349 : List Nat := 182 :: 0 :: 214 :: sL_law_1352
noncomputable def sL_law_1348 : List Nat := 44 :: sL_law_1349
noncomputable def sL_law_1347 : List Nat := 87 :: sL_law_1348
noncomputable def sL_law_1344 : List Nat := 182 :: 0 :: 210 :: sL_law_1347
noncomputable def sL_law_1343 : List Nat := 43 :: sL_law_1344
noncomputable def sL_law_1340 : List Nat := 167 :: 2 :: 214 :: sL_law_1343
noncomputable def sL_law_1338 : List Nat := 54 :: 6 :: sL_law_1340
noncomputable def sL_law_1335 : List Nat := 182 :: 0 :: 209 :: sL_law_1338
noncomputable def sL_law_1334 : List Nat := 46 :: sL_law_1335
noncomputable def sL_law_1333 : List Nat := 96 :: sL_law_1334
noncomputable def sL_law_1332 : List Nat := 4 :: sL_law_1333
noncomputable def sL_law_1330 : List Nat := 21 :: 4 :: sL_law_1332
noncomputable def sL_law_1329 : List Nat := 42 :: sL_law_1330
noncomputable def sL_law_1328 : List Nat := 44 :: sL_law_1329
noncomputable def sL_law_1326 : List Nat := 54 :: 5 :: sL_law_1328
noncomputable def sL_law_1323 : List Nat := 184 :: 0 :: 207 :: sL_law_1326
noncomputable def sL_law_1322 : List Nat := 45 :: sL_law_1323
noncomputable def sL_law_1321 : List Nat := 46 :: sL_law_1322
noncomputable def sL_law_1320 : List Nat := 96 :: sL_law_1321
noncomputable def sL_law_1319 : List Nat := 4 :: sL_law_1320
noncomputable def sL_law_1317 : List Nat := 21 :: 4 :: sL_law_1319
noncomputable def sL_law_1316 : List Nat := 42 :: sL_law_1317
noncomputable def sL_law_1315 : List Nat := 43 :: sL_law_1316
noncomputable def sL_law_1312 : List Nat := 167 :: 2 :: 242 :: sL_law_1315
noncomputable def sL_law_1310 : List Nat := 54 :: 6 :: sL_law_1312
noncomputable def sL_law_1307 : List Nat := 182 :: 0 :: 206 :: sL_law_1310
noncomputable def sL_law_1306 : List Nat := 46 :: sL_law_1307
noncomputable def sL_law_1305 : List Nat := 96 :: sL_law_1306
noncomputable def sL_law_1304 : List Nat := 4 :: sL_law_1305
noncomputable def sL_law_1302 : List Nat := 21 :: 4 :: sL_law_1304
noncomputable def sL_law_1301 : List Nat := 42 :: sL_law_1302
noncomputable def sL_law_1300 : List Nat := 44 :: sL_law_1301
noncomputable def sL_law_1298 : List Nat := 54 :: 5 :: sL_law_1300
noncomputable def sL_law_1295 : List Nat := 184 :: 0 :: 204 :: sL_law_1298
noncomputable def sL_law_1294 : List Nat := 45 :: sL_law_1295
noncomputable def sL_law_1293 : List Nat := 46 :: sL_law_1294
noncomputable def sL_law_1292 : List Nat := 96 :: sL_law_1293
noncomputable def sL_law_1291 : List Nat := 4 :: sL_law_1292
noncomputable def sL_law_1289 : List Nat := 21 :: 4 :: sL_law_1291
noncomputable def sL_law_1288 : List Nat := 42 :: sL_law_1289
noncomputable def sL_law_1287 : List Nat := 43 :: sL_law_1288
noncomputable def sL_law_1284 : List Nat := 167 :: 3 :: 14 :: sL_law_1287
noncomputable def sL_law_1281 : List Nat := 182 :: 0 :: 203 :: sL_law_1284
noncomputable def sL_law_1280 : List Nat := 46 :: sL_law_1281
noncomputable def sL_law_1279 : List Nat := 96 :: sL_law_1280
noncomputable def sL_law_1278 : List Nat := 7 :: sL_law_1279
noncomputable def sL_law_1276 : List Nat := 21 :: 4 :: sL_law_1278
noncomputable def sL_law_1275 : List Nat := 42 :: sL_law_1276
noncomputable def sL_law_1274 : List Nat := 46 :: sL_law_1275
noncomputable def sL_law_1273 : List Nat := 96 :: sL_law_1274
noncomputable def sL_law_1272 : List Nat := 6 :: sL_law_1273
noncomputable def sL_law_1270 : List Nat := 21 :: 4 :: sL_law_1272
noncomputable def sL_law_1269 : List Nat := 42 :: sL_law_1270
noncomputable def sL_law_1268 : List Nat := 46 :: sL_law_1269
noncomputable def sL_law_1267 : List Nat := 96 :: sL_law_1268
noncomputable def sL_law_1266 : List Nat := 5 :: sL_law_1267
noncomputable def sL_law_1264 : List Nat := 21 :: 4 :: sL_law_1266
noncomputable def sL_law_1263 : List Nat := 42 :: sL_law_1264
noncomputable def sL_law_1262 : List Nat := 46 :: sL_law_1263
noncomputable def sL_law_1261 : List Nat := 96 :: sL_law_1262
noncomputable def sL_law_1260 : List Nat := 4 :: sL_law_1261
noncomputable def sL_law_1258 : List Nat := 21 :: 4 :: sL_law_1260
noncomputable def sL_law_1257 : List Nat := 42 :: sL_law_1258
noncomputable def sL_law_1256 : List Nat := 44 :: sL_law_1257
noncomputable def sL_law_1254 : List Nat := 54 :: 5 :: sL_law_1256
noncomputable def sL_law_1251 : List Nat := 184 :: 0 :: 200 :: sL_law_1254
noncomputable def sL_law_1250 : List Nat := 46 :: sL_law_1251
noncomputable def sL_law_1249 : List Nat := 96 :: sL_law_1250
noncomputable def sL_law_1248 : List Nat := 7 :: sL_law_1249
noncomputable def sL_law_1246 : List Nat := 21 :: 4 :: sL_law_1248
noncomputable def sL_law_1245 : List Nat := 42 :: sL_law_1246
noncomputable def sL_law_1244 : List Nat := 46 :: sL_law_1245
noncomputable def sL_law_1243 : List Nat := 96 :: sL_law_1244
noncomputable def sL_law_1242 : List Nat := 6 :: sL_law_1243
noncomputable def sL_law_1240 : List Nat := 21 :: 4 :: sL_law_1242
noncomputable def sL_law_1239 : List Nat := 42 :: sL_law_1240
noncomputable def sL_law_1238 : List Nat := 46 :: sL_law_1239
noncomputable def sL_law_1237 : List Nat := 96 :: sL_law_1238
noncomputable def sL_law_1236 : List Nat := 5 :: sL_law_1237
noncomputable def sL_law_1234 : List Nat := 21 :: 4 :: sL_law_1236
noncomputable def sL_law_1233 : List Nat := 42 :: sL_law_1234
noncomputable def sL_law_1232 : List Nat := 46 :: sL_law_1233
noncomputable def sL_law_1231 : List Nat := 96 :: sL_law_1232
noncomputable def sL_law_1230 : List Nat := 4 :: sL_law_1231
noncomputable def sL_law_1228 : List Nat := 21 :: 4 :: sL_law_1230
noncomputable def sL_law_1227 : List Nat := 42 :: sL_law_1228
noncomputable def sL_law_1226 : List Nat := 43 :: sL_law_1227
noncomputable def sL_law_1223 : List Nat := 167 :: 3 :: 75 :: sL_law_1226
noncomputable def sL_law_1221 : List Nat := 54 :: 6 :: sL_law_1223
noncomputable def sL_law_1218 : List Nat := 182 :: 0 :: 199 :: sL_law_1221
noncomputable def sL_law_1217 : List Nat := 46 :: sL_law_1218
noncomputable def sL_law_1216 : List Nat := 96 :: sL_law_1217
noncomputable def sL_law_1215 : List Nat := 5 :: sL_law_1216
noncomputable def sL_law_1213 : List Nat := 21 :: 4 :: sL_law_1215
noncomputable def sL_law_1212 : List Nat := 42 :: sL_law_1213
noncomputable def sL_law_1211 : List Nat := 46 :: sL_law_1212
noncomputable def sL_law_1210 : List Nat := 96 :: sL_law_1211
noncomputable def sL_law_1209 : List Nat := 4 :: sL_law_1210
noncomputable def sL_law_1207 : List Nat := 21 :: 4 :: sL_law_1209
noncomputable def sL_law_1206 : List Nat := 42 :: sL_law_1207
noncomputable def sL_law_1205 : List Nat := 44 :: sL_law_1206
noncomputable def sL_law_1203 : List Nat := 54 :: 5 :: sL_law_1205
noncomputable def sL_law_1200 : List Nat := 184 :: 0 :: 197 :: sL_law_1203
noncomputable def sL_law_1199 : List Nat := 45 :: sL_law_1200
noncomputable def sL_law_1198 : List Nat := 46 :: sL_law_1199
noncomputable def sL_law_1197 : List Nat := 96 :: sL_law_1198
noncomputable def sL_law_1196 : List Nat := 5 :: sL_law_1197
noncomputable def sL_law_1194 : List Nat := 21 :: 4 :: sL_law_1196
noncomputable def sL_law_1193 : List Nat := 42 :: sL_law_1194
noncomputable def sL_law_1192 : List Nat := 46 :: sL_law_1193
noncomputable def sL_law_1191 : List Nat := 96 :: sL_law_1192
noncomputable def sL_law_1190 : List Nat := 4 :: sL_law_1191
noncomputable def sL_law_1188 : List Nat := 21 :: 4 :: sL_law_1190
noncomputable def sL_law_1187 : List Nat := 42 :: sL_law_1188
noncomputable def sL_law_1186 : List Nat := 43 :: sL_law_1187
noncomputable def sL_law_1183 : List Nat := 167 :: 3 :: 115 :: sL_law_1186
noncomputable def sL_law_1181 : List Nat := 54 :: 6 :: sL_law_1183
noncomputable def sL_law_1178 : List Nat := 182 :: 0 :: 196 :: sL_law_1181
noncomputable def sL_law_1177 : List Nat := 46 :: sL_law_1178
noncomputable def sL_law_1176 : List Nat := 96 :: sL_law_1177
noncomputable def sL_law_1175 : List Nat := 6 :: sL_law_1176
noncomputable def sL_law_1173 : List Nat := 21 :: 4 :: sL_law_1175
noncomputable def sL_law_1172 : List Nat := 42 :: sL_law_1173
noncomputable def sL_law_1171 : List Nat := 46 :: sL_law_1172
noncomputable def sL_law_1170 : List Nat := 96 :: sL_law_1171
noncomputable def sL_law_1169 : List Nat := 5 :: sL_law_1170
noncomputable def sL_law_1167 : List Nat := 21 :: 4 :: sL_law_1169
noncomputable def sL_law_1166 : List Nat := 42 :: sL_law_1167
noncomputable def sL_law_1165 : List Nat := 46 :: sL_law_1166
noncomputable def sL_law_1164 : List Nat := 96 :: sL_law_1165
noncomputable def sL_law_1163 : List Nat := 4 :: sL_law_1164
noncomputable def sL_law_1161 : List Nat := 21 :: 4 :: sL_law_1163
noncomputable def sL_law_1160 : List Nat := 42 :: sL_law_1161
noncomputable def sL_law_1159 : List Nat := 44 :: sL_law_1160
noncomputable def sL_law_1157 : List Nat := 54 :: 5 :: sL_law_1159
noncomputable def sL_law_1154 : List Nat := 184 :: 0 :: 194 :: sL_law_1157
noncomputable def sL_law_1153 : List Nat := 45 :: sL_law_1154
noncomputable def sL_law_1152 : List Nat := 46 :: sL_law_1153
noncomputable def sL_law_1151 : List Nat := 96 :: sL_law_1152
noncomputable def sL_law_1150 : List Nat := 6 :: sL_law_1151
noncomputable def sL_law_1148 : List Nat := 21 :: 4 :: sL_law_1150
noncomputable def sL_law_1147 : List Nat := 42 :: sL_law_1148
noncomputable def sL_law_1146 : List Nat := 46 :: sL_law_1147
noncomputable def sL_law_1145 : List Nat := 96 :: sL_law_1146
noncomputable def sL_law_1144 : List Nat := 5 :: sL_law_1145
noncomputable def sL_law_1142 : List Nat := 21 :: 4 :: sL_law_1144
noncomputable def sL_law_1141 : List Nat := 42 :: sL_law_1142
noncomputable def sL_law_1140 : List Nat := 46 :: sL_law_1141
noncomputable def sL_law_1139 : List Nat := 96 :: sL_law_1140
noncomputable def sL_law_1138 : List Nat := 4 :: sL_law_1139
noncomputable def sL_law_1136 : List Nat := 21 :: 4 :: sL_law_1138
noncomputable def sL_law_1135 : List Nat := 42 :: sL_law_1136
noncomputable def sL_law_1134 : List Nat := 43 :: sL_law_1135
noncomputable def sL_law_1131 : List Nat := 167 :: 3 :: 167 :: sL_law_1134
noncomputable def sL_law_1129 : List Nat := 54 :: 6 :: sL_law_1131
noncomputable def sL_law_1126 : List Nat := 182 :: 0 :: 193 :: sL_law_1129
noncomputable def sL_law_1125 : List Nat := 46 :: sL_law_1126
noncomputable def sL_law_1124 : List Nat := 96 :: sL_law_1125
noncomputable def sL_law_1123 : List Nat := 7 :: sL_law_1124
noncomputable def sL_law_1121 : List Nat := 21 :: 4 :: sL_law_1123
noncomputable def sL_law_1120 : List Nat := 42 :: sL_law_1121
noncomputable def sL_law_1119 : List Nat := 46 :: sL_law_1120
noncomputable def sL_law_1118 : List Nat := 96 :: sL_law_1119
noncomputable def sL_law_1117 : List Nat := 6 :: sL_law_1118
noncomputable def sL_law_1115 : List Nat := 21 :: 4 :: sL_law_1117
noncomputable def sL_law_1114 : List Nat := 42 :: sL_law_1115
noncomputable def sL_law_1113 : List Nat := 46 :: sL_law_1114
noncomputable def sL_law_1112 : List Nat := 96 :: sL_law_1113
noncomputable def sL_law_1111 : List Nat := 5 :: sL_law_1112
noncomputable def sL_law_1109 : List Nat := 21 :: 4 :: sL_law_1111
noncomputable def sL_law_1108 : List Nat := 42 :: sL_law_1109
noncomputable def sL_law_1107 : List Nat := 46 :: sL_law_1108
noncomputable def sL_law_1106 : List Nat := 96 :: sL_law_1107
noncomputable def sL_law_1105 : List Nat := 4 :: sL_law_1106
noncomputable def sL_law_1103 : List Nat := 21 :: 4 :: sL_law_1105
noncomputable def sL_law_1102 : List Nat := 42 :: sL_law_1103
noncomputable def sL_law_1101 : List Nat := 44 :: sL_law_1102
noncomputable def sL_law_1099 : List Nat := 54 :: 5 :: sL_law_1101
noncomputable def sL_law_1096 : List Nat := 184 :: 0 :: 191 :: sL_law_1099
noncomputable def sL_law_1095 : List Nat := 45 :: sL_law_1096
noncomputable def sL_law_1094 : List Nat := 46 :: sL_law_1095
noncomputable def sL_law_1093 : List Nat := 96 :: sL_law_1094
noncomputable def sL_law_1092 : List Nat := 7 :: sL_law_1093
noncomputable def sL_law_1090 : List Nat := 21 :: 4 :: sL_law_1092
noncomputable def sL_law_1089 : List Nat := 42 :: sL_law_1090
noncomputable def sL_law_1088 : List Nat := 46 :: sL_law_1089
noncomputable def sL_law_1087 : List Nat := 96 :: sL_law_1088
noncomputable def sL_law_1086 : List Nat := 6 :: sL_law_1087
noncomputable def sL_law_1084 : List Nat := 21 :: 4 :: sL_law_1086
noncomputable def sL_law_1083 : List Nat := 42 :: sL_law_1084
noncomputable def sL_law_1082 : List Nat := 46 :: sL_law_1083
noncomputable def sL_law_1081 : List Nat := 96 :: sL_law_1082
noncomputable def sL_law_1080 : List Nat := 5 :: sL_law_1081
noncomputable def sL_law_1078 : List Nat := 21 :: 4 :: sL_law_1080
noncomputable def sL_law_1077 : List Nat := 42 :: sL_law_1078
noncomputable def sL_law_1076 : List Nat := 46 :: sL_law_1077
noncomputable def sL_law_1075 : List Nat := 96 :: sL_law_1076
noncomputable def sL_law_1074 : List Nat := 4 :: sL_law_1075
noncomputable def sL_law_1072 : List Nat := 21 :: 4 :: sL_law_1074
noncomputable def sL_law_1071 : List Nat := 42 :: sL_law_1072
noncomputable def sL_law_1070 : List Nat := 43 :: sL_law_1071
noncomputable def sL_law_1067 : List Nat := 167 :: 3 :: 231 :: sL_law_1070
noncomputable def sL_law_1065 : List Nat := 54 :: 6 :: sL_law_1067
noncomputable def sL_law_1062 : List Nat := 182 :: 0 :: 190 :: sL_law_1065
noncomputable def sL_law_1061 : List Nat := 46 :: sL_law_1062
noncomputable def sL_law_1060 : List Nat := 96 :: sL_law_1061
noncomputable def sL_law_1059 : List Nat := 7 :: sL_law_1060
noncomputable def sL_law_1057 : List Nat := 21 :: 4 :: sL_law_1059
noncomputable def sL_law_1056 : List Nat := 42 :: sL_law_1057
noncomputable def sL_law_1055 : List Nat := 46 :: sL_law_1056
noncomputable def sL_law_1054 : List Nat := 96 :: sL_law_1055
noncomputable def sL_law_1053 : List Nat := 6 :: sL_law_1054
noncomputable def sL_law_1051 : List Nat := 21 :: 4 :: sL_law_1053
noncomputable def sL_law_1050 : List Nat := 42 :: sL_law_1051
noncomputable def sL_law_1049 : List Nat := 46 :: sL_law_1050
noncomputable def sL_law_1048 : List Nat := 96 :: sL_law_1049
noncomputable def sL_law_1047 : List Nat := 5 :: sL_law_1048
noncomputable def sL_law_1045 : List Nat := 21 :: 4 :: sL_law_1047
noncomputable def sL_law_1044 : List Nat := 42 :: sL_law_1045
noncomputable def sL_law_1043 : List Nat := 46 :: sL_law_1044
noncomputable def sL_law_1042 : List Nat := 96 :: sL_law_1043
noncomputable def sL_law_1041 : List Nat := 4 :: sL_law_1042
noncomputable def sL_law_1039 : List Nat := 21 :: 4 :: sL_law_1041
noncomputable def sL_law_1038 : List Nat := 42 :: sL_law_1039
noncomputable def sL_law_1037 : List Nat := 44 :: sL_law_1038
noncomputable def sL_law_1035 : List Nat := 54 :: 5 :: sL_law_1037
noncomputable def sL_law_1032 : List Nat := 184 :: 0 :: 188 :: sL_law_1035
noncomputable def sL_law_1031 : List Nat := 45 :: sL_law_1032
noncomputable def sL_law_1030 : List Nat := 46 :: sL_law_1031
noncomputable def sL_law_1029 : List Nat := 96 :: sL_law_1030
noncomputable def sL_law_1028 : List Nat := 7 :: sL_law_1029
noncomputable def sL_law_1026 : List Nat := 21 :: 4 :: sL_law_1028
noncomputable def sL_law_1025 : List Nat := 42 :: sL_law_1026
noncomputable def sL_law_1024 : List Nat := 46 :: sL_law_1025
noncomputable def sL_law_1023 : List Nat := 96 :: sL_law_1024
noncomputable def sL_law_1022 : List Nat := 6 :: sL_law_1023
noncomputable def sL_law_1020 : List Nat := 21 :: 4 :: sL_law_1022
noncomputable def sL_law_1019 : List Nat := 42 :: sL_law_1020
noncomputable def sL_law_1018 : List Nat := 46 :: sL_law_1019
noncomputable def sL_law_1017 : List Nat := 96 :: sL_law_1018
noncomputable def sL_law_1016 : List Nat := 5 :: sL_law_1017
noncomputable def sL_law_1014 : List Nat := 21 :: 4 :: sL_law_1016
noncomputable def sL_law_1013 : List Nat := 42 :: sL_law_1014
noncomputable def sL_law_1012 : List Nat := 46 :: sL_law_1013
noncomputable def sL_law_1011 : List Nat := 96 :: sL_law_1012
noncomputable def sL_law_1010 : List Nat := 4 :: sL_law_1011
noncomputable def sL_law_1008 : List Nat := 21 :: 4 :: sL_law_1010
noncomputable def sL_law_1007 : List Nat := 42 :: sL_law_1008
noncomputable def sL_law_1006 : List Nat := 43 :: sL_law_1007
noncomputable def sL_law_1003 : List Nat := 167 :: 4 :: 39 :: sL_law_1006
noncomputable def sL_law_1001 : List Nat := 54 :: 6 :: sL_law_1003
noncomputable def sL_law_998 : List Nat := 182 :: 0 :: 187 :: sL_law_1001
noncomputable def sL_law_997 : List Nat := 46 :: sL_law_998
noncomputable def sL_law_996 : List Nat := 96 :: sL_law_997
noncomputable def sL_law_995 : List Nat := 6 :: sL_law_996
noncomputable def sL_law_993 : List Nat := 21 :: 4 :: sL_law_995
noncomputable def sL_law_992 : List Nat := 42 :: sL_law_993
noncomputable def sL_law_991 : List Nat := 46 :: sL_law_992
noncomputable def sL_law_990 : List Nat := 96 :: sL_law_991
noncomputable def sL_law_989 : List Nat := 5 :: sL_law_990
noncomputable def sL_law_987 : List Nat := 21 :: 4 :: sL_law_989
noncomputable def sL_law_986 : List Nat := 42 :: sL_law_987
noncomputable def sL_law_985 : List Nat := 46 :: sL_law_986
noncomputable def sL_law_984 : List Nat := 96 :: sL_law_985
noncomputable def sL_law_983 : List Nat := 4 :: sL_law_984
noncomputable def sL_law_981 : List Nat := 21 :: 4 :: sL_law_983
noncomputable def sL_law_980 : List Nat := 42 :: sL_law_981
noncomputable def sL_law_979 : List Nat := 44 :: sL_law_980
noncomputable def sL_law_977 : List Nat := 54 :: 5 :: sL_law_979
noncomputable def sL_law_974 : List Nat := 184 :: 0 :: 185 :: sL_law_977
noncomputable def sL_law_973 : List Nat := 45 :: sL_law_974
noncomputable def sL_law_972 : List Nat := 46 :: sL_law_973
noncomputable def sL_law_971 : List Nat := 96 :: sL_law_972
noncomputable def sL_law_970 : List Nat := 6 :: sL_law_971
noncomputable def sL_law_968 : List Nat := 21 :: 4 :: sL_law_970
noncomputable def sL_law_967 : List Nat := 42 :: sL_law_968
noncomputable def sL_law_966 : List Nat := 46 :: sL_law_967
noncomputable def sL_law_965 : List Nat := 96 :: sL_law_966
noncomputable def sL_law_964 : List Nat := 5 :: sL_law_965
noncomputable def sL_law_962 : List Nat := 21 :: 4 :: sL_law_964
noncomputable def sL_law_961 : List Nat := 42 :: sL_law_962
noncomputable def sL_law_960 : List Nat := 46 :: sL_law_961
noncomputable def sL_law_959 : List Nat := 96 :: sL_law_960
noncomputable def sL_law_958 : List Nat := 4 :: sL_law_959
noncomputable def sL_law_956 : List Nat := 21 :: 4 :: sL_law_958
noncomputable def sL_law_955 : List Nat := 42 :: sL_law_956
noncomputable def sL_law_954 : List Nat := 43 :: sL_law_955
noncomputable def sL_law_951 : List Nat := 167 :: 4 :: 91 :: sL_law_954
noncomputable def sL_law_949 : List Nat := 54 :: 6 :: sL_law_951
noncomputable def sL_law_946 : List Nat := 182 :: 0 :: 184 :: sL_law_949
noncomputable def sL_law_945 : List Nat := 46 :: sL_law_946
noncomputable def sL_law_944 : List Nat := 96 :: sL_law_945
noncomputable def sL_law_943 : List Nat := 5 :: sL_law_944
noncomputable def sL_law_941 : List Nat := 21 :: 4 :: sL_law_943
noncomputable def sL_law_940 : List Nat := 42 :: sL_law_941
noncomputable def sL_law_939 : List Nat := 46 :: sL_law_940
noncomputable def sL_law_938 : List Nat := 96 :: sL_law_939
noncomputable def sL_law_937 : List Nat := 4 :: sL_law_938
noncomputable def sL_law_935 : List Nat := 21 :: 4 :: sL_law_937
noncomputable def sL_law_934 : List Nat := 42 :: sL_law_935
noncomputable def sL_law_933 : List Nat := 44 :: sL_law_934
noncomputable def sL_law_931 : List Nat := 54 :: 5 :: sL_law_933
noncomputable def sL_law_928 : List Nat := 184 :: 0 :: 182 :: sL_law_931
noncomputable def sL_law_927 : List Nat := 45 :: sL_law_928
noncomputable def sL_law_926 : List Nat := 46 :: sL_law_927
noncomputable def sL_law_925 : List Nat := 96 :: sL_law_926
noncomputable def sL_law_924 : List Nat := 5 :: sL_law_925
noncomputable def sL_law_922 : List Nat := 21 :: 4 :: sL_law_924
noncomputable def sL_law_921 : List Nat := 42 :: sL_law_922
noncomputable def sL_law_920 : List Nat := 46 :: sL_law_921
noncomputable def sL_law_919 : List Nat := 96 :: sL_law_920
noncomputable def sL_law_918 : List Nat := 4 :: sL_law_919
noncomputable def sL_law_916 : List Nat := 21 :: 4 :: sL_law_918
noncomputable def sL_law_915 : List Nat := 42 :: sL_law_916
noncomputable def sL_law_914 : List Nat := 43 :: sL_law_915
noncomputable def sL_law_911 : List Nat := 167 :: 4 :: 131 :: sL_law_914
noncomputable def sL_law_909 : List Nat := 54 :: 6 :: sL_law_911
noncomputable def sL_law_906 : List Nat := 182 :: 0 :: 181 :: sL_law_909
noncomputable def sL_law_905 : List Nat := 46 :: sL_law_906
noncomputable def sL_law_904 : List Nat := 96 :: sL_law_905
noncomputable def sL_law_903 : List Nat := 6 :: sL_law_904
noncomputable def sL_law_901 : List Nat := 21 :: 4 :: sL_law_903
noncomputable def sL_law_900 : List Nat := 42 :: sL_law_901
noncomputable def sL_law_899 : List Nat := 46 :: sL_law_900
noncomputable def sL_law_898 : List Nat := 96 :: sL_law_899
noncomputable def sL_law_897 : List Nat := 5 :: sL_law_898
noncomputable def sL_law_895 : List Nat := 21 :: 4 :: sL_law_897
noncomputable def sL_law_894 : List Nat := 42 :: sL_law_895
noncomputable def sL_law_893 : List Nat := 46 :: sL_law_894
noncomputable def sL_law_892 : List Nat := 96 :: sL_law_893
noncomputable def sL_law_891 : List Nat := 4 :: sL_law_892
noncomputable def sL_law_889 : List Nat := 21 :: 4 :: sL_law_891
noncomputable def sL_law_888 : List Nat := 42 :: sL_law_889
noncomputable def sL_law_887 : List Nat := 44 :: sL_law_888
noncomputable def sL_law_885 : List Nat := 54 :: 5 :: sL_law_887
noncomputable def sL_law_882 : List Nat := 184 :: 0 :: 179 :: sL_law_885
noncomputable def sL_law_881 : List Nat := 45 :: sL_law_882
noncomputable def sL_law_880 : List Nat := 46 :: sL_law_881
noncomputable def sL_law_879 : List Nat := 96 :: sL_law_880
noncomputable def sL_law_878 : List Nat := 6 :: sL_law_879
noncomputable def sL_law_876 : List Nat := 21 :: 4 :: sL_law_878
noncomputable def sL_law_875 : List Nat := 42 :: sL_law_876
noncomputable def sL_law_874 : List Nat := 46 :: sL_law_875
noncomputable def sL_law_873 : List Nat := 96 :: sL_law_874
noncomputable def sL_law_872 : List Nat := 5 :: sL_law_873
noncomputable def sL_law_870 : List Nat := 21 :: 4 :: sL_law_872
noncomputable def sL_law_869 : List Nat := 42 :: sL_law_870
noncomputable def sL_law_868 : List Nat := 46 :: sL_law_869
noncomputable def sL_law_867 : List Nat := 96 :: sL_law_868
noncomputable def sL_law_866 : List Nat := 4 :: sL_law_867
noncomputable def sL_law_864 : List Nat := 21 :: 4 :: sL_law_866
noncomputable def sL_law_863 : List Nat := 42 :: sL_law_864
noncomputable def sL_law_862 : List Nat := 43 :: sL_law_863
noncomputable def sL_law_859 : List Nat := 167 :: 4 :: 183 :: sL_law_862
noncomputable def sL_law_857 : List Nat := 54 :: 6 :: sL_law_859
noncomputable def sL_law_854 : List Nat := 182 :: 0 :: 178 :: sL_law_857
noncomputable def sL_law_853 : List Nat := 46 :: sL_law_854
noncomputable def sL_law_852 : List Nat := 96 :: sL_law_853
noncomputable def sL_law_851 : List Nat := 5 :: sL_law_852
noncomputable def sL_law_849 : List Nat := 21 :: 4 :: sL_law_851
noncomputable def sL_law_848 : List Nat := 42 :: sL_law_849
noncomputable def sL_law_847 : List Nat := 46 :: sL_law_848
noncomputable def sL_law_846 : List Nat := 96 :: sL_law_847
noncomputable def sL_law_845 : List Nat := 4 :: sL_law_846
noncomputable def sL_law_843 : List Nat := 21 :: 4 :: sL_law_845
noncomputable def sL_law_842 : List Nat := 42 :: sL_law_843
noncomputable def sL_law_841 : List Nat := 44 :: sL_law_842
noncomputable def sL_law_839 : List Nat := 54 :: 5 :: sL_law_841
noncomputable def sL_law_836 : List Nat := 184 :: 0 :: 175 :: sL_law_839
noncomputable def sL_law_835 : List Nat := 45 :: sL_law_836
noncomputable def sL_law_834 : List Nat := 46 :: sL_law_835
noncomputable def sL_law_833 : List Nat := 96 :: sL_law_834
noncomputable def sL_law_832 : List Nat := 5 :: sL_law_833
noncomputable def sL_law_830 : List Nat := 21 :: 4 :: sL_law_832
noncomputable def sL_law_829 : List Nat := 42 :: sL_law_830
noncomputable def sL_law_828 : List Nat := 46 :: sL_law_829
noncomputable def sL_law_827 : List Nat := 96 :: sL_law_828
noncomputable def sL_law_826 : List Nat := 4 :: sL_law_827
noncomputable def sL_law_824 : List Nat := 21 :: 4 :: sL_law_826
noncomputable def sL_law_823 : List Nat := 42 :: sL_law_824
noncomputable def sL_law_822 : List Nat := 43 :: sL_law_823
noncomputable def sL_law_819 : List Nat := 167 :: 4 :: 223 :: sL_law_822
noncomputable def sL_law_817 : List Nat := 54 :: 6 :: sL_law_819
noncomputable def sL_law_814 : List Nat := 182 :: 0 :: 174 :: sL_law_817
noncomputable def sL_law_813 : List Nat := 46 :: sL_law_814
noncomputable def sL_law_812 : List Nat := 96 :: sL_law_813
noncomputable def sL_law_811 : List Nat := 7 :: sL_law_812
noncomputable def sL_law_809 : List Nat := 21 :: 4 :: sL_law_811
noncomputable def sL_law_808 : List Nat := 42 :: sL_law_809
noncomputable def sL_law_807 : List Nat := 46 :: sL_law_808
noncomputable def sL_law_806 : List Nat := 96 :: sL_law_807
noncomputable def sL_law_805 : List Nat := 6 :: sL_law_806
noncomputable def sL_law_803 : List Nat := 21 :: 4 :: sL_law_805
noncomputable def sL_law_802 : List Nat := 42 :: sL_law_803
noncomputable def sL_law_801 : List Nat := 46 :: sL_law_802
noncomputable def sL_law_800 : List Nat := 96 :: sL_law_801
noncomputable def sL_law_799 : List Nat := 5 :: sL_law_800
noncomputable def sL_law_797 : List Nat := 21 :: 4 :: sL_law_799
noncomputable def sL_law_796 : List Nat := 42 :: sL_law_797
noncomputable def sL_law_795 : List Nat := 46 :: sL_law_796
noncomputable def sL_law_794 : List Nat := 96 :: sL_law_795
noncomputable def sL_law_793 : List Nat := 4 :: sL_law_794
noncomputable def sL_law_791 : List Nat := 21 :: 4 :: sL_law_793
noncomputable def sL_law_790 : List Nat := 42 :: sL_law_791
noncomputable def sL_law_789 : List Nat := 44 :: sL_law_790
noncomputable def sL_law_787 : List Nat := 54 :: 5 :: sL_law_789
noncomputable def sL_law_784 : List Nat := 184 :: 0 :: 172 :: sL_law_787
noncomputable def sL_law_783 : List Nat := 45 :: sL_law_784
noncomputable def sL_law_782 : List Nat := 46 :: sL_law_783
noncomputable def sL_law_781 : List Nat := 96 :: sL_law_782
noncomputable def sL_law_780 : List Nat := 7 :: sL_law_781
noncomputable def sL_law_778 : List Nat := 21 :: 4 :: sL_law_780
noncomputable def sL_law_777 : List Nat := 42 :: sL_law_778
noncomputable def sL_law_776 : List Nat := 46 :: sL_law_777
noncomputable def sL_law_775 : List Nat := 96 :: sL_law_776
noncomputable def sL_law_774 : List Nat := 6 :: sL_law_775
noncomputable def sL_law_772 : List Nat := 21 :: 4 :: sL_law_774
noncomputable def sL_law_771 : List Nat := 42 :: sL_law_772
noncomputable def sL_law_770 : List Nat := 46 :: sL_law_771
noncomputable def sL_law_769 : List Nat := 96 :: sL_law_770
noncomputable def sL_law_768 : List Nat := 5 :: sL_law_769
noncomputable def sL_law_766 : List Nat := 21 :: 4 :: sL_law_768
noncomputable def sL_law_765 : List Nat := 42 :: sL_law_766
noncomputable def sL_law_764 : List Nat := 46 :: sL_law_765
noncomputable def sL_law_763 : List Nat := 96 :: sL_law_764
noncomputable def sL_law_762 : List Nat := 4 :: sL_law_763
noncomputable def sL_law_760 : List Nat := 21 :: 4 :: sL_law_762
noncomputable def sL_law_759 : List Nat := 42 :: sL_law_760
noncomputable def sL_law_758 : List Nat := 43 :: sL_law_759
noncomputable def sL_law_755 : List Nat := 167 :: 5 :: 31 :: sL_law_758
noncomputable def sL_law_753 : List Nat := 54 :: 6 :: sL_law_755
noncomputable def sL_law_750 : List Nat := 182 :: 0 :: 171 :: sL_law_753
noncomputable def sL_law_749 : List Nat := 46 :: sL_law_750
noncomputable def sL_law_748 : List Nat := 96 :: sL_law_749
noncomputable def sL_law_747 : List Nat := 8 :: sL_law_748
noncomputable def sL_law_745 : List Nat := 21 :: 4 :: sL_law_747
noncomputable def sL_law_744 : List Nat := 42 :: sL_law_745
noncomputable def sL_law_743 : List Nat := 46 :: sL_law_744
noncomputable def sL_law_742 : List Nat := 96 :: sL_law_743
noncomputable def sL_law_741 : List Nat := 7 :: sL_law_742
noncomputable def sL_law_739 : List Nat := 21 :: 4 :: sL_law_741
noncomputable def sL_law_738 : List Nat := 42 :: sL_law_739
noncomputable def sL_law_737 : List Nat := 46 :: sL_law_738
noncomputable def sL_law_736 : List Nat := 96 :: sL_law_737
noncomputable def sL_law_735 : List Nat := 6 :: sL_law_736
noncomputable def sL_law_733 : List Nat := 21 :: 4 :: sL_law_735
noncomputable def sL_law_732 : List Nat := 42 :: sL_law_733
noncomputable def sL_law_731 : List Nat := 46 :: sL_law_732
noncomputable def sL_law_730 : List Nat := 96 :: sL_law_731
noncomputable def sL_law_729 : List Nat := 5 :: sL_law_730
noncomputable def sL_law_727 : List Nat := 21 :: 4 :: sL_law_729
noncomputable def sL_law_726 : List Nat := 42 :: sL_law_727
noncomputable def sL_law_725 : List Nat := 46 :: sL_law_726
noncomputable def sL_law_724 : List Nat := 96 :: sL_law_725
noncomputable def sL_law_723 : List Nat := 4 :: sL_law_724
noncomputable def sL_law_721 : List Nat := 21 :: 4 :: sL_law_723
noncomputable def sL_law_720 : List Nat := 42 :: sL_law_721
noncomputable def sL_law_719 : List Nat := 44 :: sL_law_720
noncomputable def sL_law_717 : List Nat := 54 :: 5 :: sL_law_719
noncomputable def sL_law_714 : List Nat := 184 :: 0 :: 169 :: sL_law_717
noncomputable def sL_law_713 : List Nat := 45 :: sL_law_714
noncomputable def sL_law_712 : List Nat := 46 :: sL_law_713
noncomputable def sL_law_711 : List Nat := 96 :: sL_law_712
noncomputable def sL_law_710 : List Nat := 8 :: sL_law_711
noncomputable def sL_law_708 : List Nat := 21 :: 4 :: sL_law_710
noncomputable def sL_law_707 : List Nat := 42 :: sL_law_708
noncomputable def sL_law_706 : List Nat := 46 :: sL_law_707
noncomputable def sL_law_705 : List Nat := 96 :: sL_law_706
noncomputable def sL_law_704 : List Nat := 7 :: sL_law_705
noncomputable def sL_law_702 : List Nat := 21 :: 4 :: sL_law_704
noncomputable def sL_law_701 : List Nat := 42 :: sL_law_702
noncomputable def sL_law_700 : List Nat := 46 :: sL_law_701
noncomputable def sL_law_699 : List Nat := 96 :: sL_law_700
noncomputable def sL_law_698 : List Nat := 6 :: sL_law_699
noncomputable def sL_law_696 : List Nat := 21 :: 4 :: sL_law_698
noncomputable def sL_law_695 : List Nat := 42 :: sL_law_696
noncomputable def sL_law_694 : List Nat := 46 :: sL_law_695
noncomputable def sL_law_693 : List Nat := 96 :: sL_law_694
noncomputable def sL_law_692 : List Nat := 5 :: sL_law_693
noncomputable def sL_law_690 : List Nat := 21 :: 4 :: sL_law_692
noncomputable def sL_law_689 : List Nat := 42 :: sL_law_690
noncomputable def sL_law_688 : List Nat := 46 :: sL_law_689
noncomputable def sL_law_687 : List Nat := 96 :: sL_law_688
noncomputable def sL_law_686 : List Nat := 4 :: sL_law_687
noncomputable def sL_law_684 : List Nat := 21 :: 4 :: sL_law_686
noncomputable def sL_law_683 : List Nat := 42 :: sL_law_684
noncomputable def sL_law_682 : List Nat := 43 :: sL_law_683
noncomputable def sL_law_679 : List Nat := 167 :: 5 :: 107 :: sL_law_682
noncomputable def sL_law_677 : List Nat := 54 :: 6 :: sL_law_679
noncomputable def sL_law_674 : List Nat := 182 :: 0 :: 168 :: sL_law_677
noncomputable def sL_law_673 : List Nat := 46 :: sL_law_674
noncomputable def sL_law_672 : List Nat := 96 :: sL_law_673
noncomputable def sL_law_671 : List Nat := 4 :: sL_law_672
noncomputable def sL_law_669 : List Nat := 21 :: 4 :: sL_law_671
noncomputable def sL_law_668 : List Nat := 42 :: sL_law_669
noncomputable def sL_law_667 : List Nat := 44 :: sL_law_668
noncomputable def sL_law_665 : List Nat := 54 :: 5 :: sL_law_667
noncomputable def sL_law_662 : List Nat := 184 :: 0 :: 166 :: sL_law_665
noncomputable def sL_law_661 : List Nat := 45 :: sL_law_662
noncomputable def sL_law_660 : List Nat := 46 :: sL_law_661
noncomputable def sL_law_659 : List Nat := 96 :: sL_law_660
noncomputable def sL_law_658 : List Nat := 4 :: sL_law_659
noncomputable def sL_law_656 : List Nat := 21 :: 4 :: sL_law_658
noncomputable def sL_law_655 : List Nat := 42 :: sL_law_656
noncomputable def sL_law_654 : List Nat := 43 :: sL_law_655
noncomputable def sL_law_651 : List Nat := 167 :: 5 :: 135 :: sL_law_654
noncomputable def sL_law_649 : List Nat := 54 :: 6 :: sL_law_651
noncomputable def sL_law_646 : List Nat := 182 :: 0 :: 165 :: sL_law_649
noncomputable def sL_law_645 : List Nat := 46 :: sL_law_646
noncomputable def sL_law_644 : List Nat := 96 :: sL_law_645
noncomputable def sL_law_643 : List Nat := 8 :: sL_law_644
noncomputable def sL_law_641 : List Nat := 21 :: 4 :: sL_law_643
noncomputable def sL_law_640 : List Nat := 42 :: sL_law_641
noncomputable def sL_law_639 : List Nat := 46 :: sL_law_640
noncomputable def sL_law_638 : List Nat := 96 :: sL_law_639
noncomputable def sL_law_637 : List Nat := 7 :: sL_law_638
noncomputable def sL_law_635 : List Nat := 21 :: 4 :: sL_law_637
noncomputable def sL_law_634 : List Nat := 42 :: sL_law_635
noncomputable def sL_law_633 : List Nat := 46 :: sL_law_634
noncomputable def sL_law_632 : List Nat := 96 :: sL_law_633
noncomputable def sL_law_631 : List Nat := 6 :: sL_law_632
noncomputable def sL_law_629 : List Nat := 21 :: 4 :: sL_law_631
noncomputable def sL_law_628 : List Nat := 42 :: sL_law_629
noncomputable def sL_law_627 : List Nat := 46 :: sL_law_628
noncomputable def sL_law_626 : List Nat := 96 :: sL_law_627
noncomputable def sL_law_625 : List Nat := 5 :: sL_law_626
noncomputable def sL_law_623 : List Nat := 21 :: 4 :: sL_law_625
noncomputable def sL_law_622 : List Nat := 42 :: sL_law_623
noncomputable def sL_law_621 : List Nat := 46 :: sL_law_622
noncomputable def sL_law_620 : List Nat := 96 :: sL_law_621
noncomputable def sL_law_619 : List Nat := 4 :: sL_law_620
noncomputable def sL_law_617 : List Nat := 21 :: 4 :: sL_law_619
noncomputable def sL_law_616 : List Nat := 42 :: sL_law_617
noncomputable def sL_law_615 : List Nat := 44 :: sL_law_616
noncomputable def sL_law_613 : List Nat := 54 :: 5 :: sL_law_615
noncomputable def sL_law_610 : List Nat := 184 :: 0 :: 162 :: sL_law_613
noncomputable def sL_law_609 : List Nat := 45 :: sL_law_610
noncomputable def sL_law_608 : List Nat := 46 :: sL_law_609
noncomputable def sL_law_607 : List Nat := 96 :: sL_law_608
noncomputable def sL_law_606 : List Nat := 8 :: sL_law_607
noncomputable def sL_law_604 : List Nat := 21 :: 4 :: sL_law_606
noncomputable def sL_law_603 : List Nat := 42 :: sL_law_604
noncomputable def sL_law_602 : List Nat := 46 :: sL_law_603
noncomputable def sL_law_601 : List Nat := 96 :: sL_law_602
noncomputable def sL_law_600 : List Nat := 7 :: sL_law_601
noncomputable def sL_law_598 : List Nat := 21 :: 4 :: sL_law_600
noncomputable def sL_law_597 : List Nat := 42 :: sL_law_598
noncomputable def sL_law_596 : List Nat := 46 :: sL_law_597
noncomputable def sL_law_595 : List Nat := 96 :: sL_law_596
noncomputable def sL_law_594 : List Nat := 6 :: sL_law_595
noncomputable def sL_law_592 : List Nat := 21 :: 4 :: sL_law_594
noncomputable def sL_law_591 : List Nat := 42 :: sL_law_592
noncomputable def sL_law_590 : List Nat := 46 :: sL_law_591
noncomputable def sL_law_589 : List Nat := 96 :: sL_law_590
noncomputable def sL_law_588 : List Nat := 5 :: sL_law_589
noncomputable def sL_law_586 : List Nat := 21 :: 4 :: sL_law_588
noncomputable def sL_law_585 : List Nat := 42 :: sL_law_586
noncomputable def sL_law_584 : List Nat := 46 :: sL_law_585
noncomputable def sL_law_583 : List Nat := 96 :: sL_law_584
noncomputable def sL_law_582 : List Nat := 4 :: sL_law_583
noncomputable def sL_law_580 : List Nat := 21 :: 4 :: sL_law_582
noncomputable def sL_law_579 : List Nat := 42 :: sL_law_580
noncomputable def sL_law_578 : List Nat := 43 :: sL_law_579
noncomputable def sL_law_575 : List Nat := 167 :: 5 :: 211 :: sL_law_578
noncomputable def sL_law_573 : List Nat := 54 :: 6 :: sL_law_575
noncomputable def sL_law_570 : List Nat := 182 :: 0 :: 161 :: sL_law_573
noncomputable def sL_law_569 : List Nat := 46 :: sL_law_570
noncomputable def sL_law_568 : List Nat := 96 :: sL_law_569
noncomputable def sL_law_567 : List Nat := 7 :: sL_law_568
noncomputable def sL_law_565 : List Nat := 21 :: 4 :: sL_law_567
noncomputable def sL_law_564 : List Nat := 42 :: sL_law_565
noncomputable def sL_law_563 : List Nat := 46 :: sL_law_564
noncomputable def sL_law_562 : List Nat := 96 :: sL_law_563
noncomputable def sL_law_561 : List Nat := 6 :: sL_law_562
noncomputable def sL_law_559 : List Nat := 21 :: 4 :: sL_law_561
noncomputable def sL_law_558 : List Nat := 42 :: sL_law_559
noncomputable def sL_law_557 : List Nat := 46 :: sL_law_558
noncomputable def sL_law_556 : List Nat := 96 :: sL_law_557
noncomputable def sL_law_555 : List Nat := 5 :: sL_law_556
noncomputable def sL_law_553 : List Nat := 21 :: 4 :: sL_law_555
noncomputable def sL_law_552 : List Nat := 42 :: sL_law_553
noncomputable def sL_law_551 : List Nat := 46 :: sL_law_552
noncomputable def sL_law_550 : List Nat := 96 :: sL_law_551
noncomputable def sL_law_549 : List Nat := 4 :: sL_law_550
noncomputable def sL_law_547 : List Nat := 21 :: 4 :: sL_law_549
noncomputable def sL_law_546 : List Nat := 42 :: sL_law_547
noncomputable def sL_law_545 : List Nat := 44 :: sL_law_546
noncomputable def sL_law_543 : List Nat := 54 :: 5 :: sL_law_545
noncomputable def sL_law_540 : List Nat := 184 :: 0 :: 158 :: sL_law_543
noncomputable def sL_law_539 : List Nat := 45 :: sL_law_540
noncomputable def sL_law_538 : List Nat := 46 :: sL_law_539
noncomputable def sL_law_537 : List Nat := 96 :: sL_law_538
noncomputable def sL_law_536 : List Nat := 7 :: sL_law_537
noncomputable def sL_law_534 : List Nat := 21 :: 4 :: sL_law_536
noncomputable def sL_law_533 : List Nat := 42 :: sL_law_534
noncomputable def sL_law_532 : List Nat := 46 :: sL_law_533
noncomputable def sL_law_531 : List Nat := 96 :: sL_law_532
noncomputable def sL_law_530 : List Nat := 6 :: sL_law_531
noncomputable def sL_law_528 : List Nat := 21 :: 4 :: sL_law_530
noncomputable def sL_law_527 : List Nat := 42 :: sL_law_528
noncomputable def sL_law_526 : List Nat := 46 :: sL_law_527
noncomputable def sL_law_525 : List Nat := 96 :: sL_law_526
noncomputable def sL_law_524 : List Nat := 5 :: sL_law_525
noncomputable def sL_law_522 : List Nat := 21 :: 4 :: sL_law_524
noncomputable def sL_law_521 : List Nat := 42 :: sL_law_522
noncomputable def sL_law_520 : List Nat := 46 :: sL_law_521
noncomputable def sL_law_519 : List Nat := 96 :: sL_law_520
noncomputable def sL_law_518 : List Nat := 4 :: sL_law_519
noncomputable def sL_law_516 : List Nat := 21 :: 4 :: sL_law_518
noncomputable def sL_law_515 : List Nat := 42 :: sL_law_516
noncomputable def sL_law_514 : List Nat := 43 :: sL_law_515
noncomputable def sL_law_511 : List Nat := 167 :: 6 :: 19 :: sL_law_514
noncomputable def sL_law_509 : List Nat := 54 :: 6 :: sL_law_511
noncomputable def sL_law_506 : List Nat := 182 :: 0 :: 157 :: sL_law_509
noncomputable def sL_law_505 : List Nat := 46 :: sL_law_506
noncomputable def sL_law_504 : List Nat := 96 :: sL_law_505
noncomputable def sL_law_503 : List Nat := 6 :: sL_law_504
noncomputable def sL_law_501 : List Nat := 21 :: 4 :: sL_law_503
noncomputable def sL_law_500 : List Nat := 42 :: sL_law_501
noncomputable def sL_law_499 : List Nat := 46 :: sL_law_500
noncomputable def sL_law_498 : List Nat := 96 :: sL_law_499
noncomputable def sL_law_497 : List Nat := 5 :: sL_law_498
noncomputable def sL_law_495 : List Nat := 21 :: 4 :: sL_law_497
noncomputable def sL_law_494 : List Nat := 42 :: sL_law_495
noncomputable def sL_law_493 : List Nat := 46 :: sL_law_494
noncomputable def sL_law_492 : List Nat := 96 :: sL_law_493
noncomputable def sL_law_491 : List Nat := 4 :: sL_law_492
noncomputable def sL_law_489 : List Nat := 21 :: 4 :: sL_law_491
noncomputable def sL_law_488 : List Nat := 42 :: sL_law_489
noncomputable def sL_law_487 : List Nat := 44 :: sL_law_488
noncomputable def sL_law_485 : List Nat := 54 :: 5 :: sL_law_487
noncomputable def sL_law_482 : List Nat := 184 :: 0 :: 155 :: sL_law_485
noncomputable def sL_law_481 : List Nat := 45 :: sL_law_482
noncomputable def sL_law_480 : List Nat := 46 :: sL_law_481
noncomputable def sL_law_479 : List Nat := 96 :: sL_law_480
noncomputable def sL_law_478 : List Nat := 6 :: sL_law_479
noncomputable def sL_law_476 : List Nat := 21 :: 4 :: sL_law_478
noncomputable def sL_law_475 : List Nat := 42 :: sL_law_476
noncomputable def sL_law_474 : List Nat := 46 :: sL_law_475
noncomputable def sL_law_473 : List Nat := 96 :: sL_law_474
noncomputable def sL_law_472 : List Nat := 5 :: sL_law_473
noncomputable def sL_law_470 : List Nat := 21 :: 4 :: sL_law_472
noncomputable def sL_law_469 : List Nat := 42 :: sL_law_470
noncomputable def sL_law_468 : List Nat := 46 :: sL_law_469
noncomputable def sL_law_467 : List Nat := 96 :: sL_law_468
noncomputable def sL_law_466 : List Nat := 4 :: sL_law_467
noncomputable def sL_law_464 : List Nat := 21 :: 4 :: sL_law_466
noncomputable def sL_law_463 : List Nat := 42 :: sL_law_464
noncomputable def sL_law_462 : List Nat := 43 :: sL_law_463
noncomputable def sL_law_459 : List Nat := 167 :: 6 :: 71 :: sL_law_462
noncomputable def sL_law_457 : List Nat := 54 :: 6 :: sL_law_459
noncomputable def sL_law_454 : List Nat := 182 :: 0 :: 154 :: sL_law_457
noncomputable def sL_law_453 : List Nat := 46 :: sL_law_454
noncomputable def sL_law_452 : List Nat := 96 :: sL_law_453
noncomputable def sL_law_451 : List Nat := 6 :: sL_law_452
noncomputable def sL_law_449 : List Nat := 21 :: 4 :: sL_law_451
noncomputable def sL_law_448 : List Nat := 42 :: sL_law_449
noncomputable def sL_law_447 : List Nat := 46 :: sL_law_448
noncomputable def sL_law_446 : List Nat := 96 :: sL_law_447
noncomputable def sL_law_445 : List Nat := 5 :: sL_law_446
noncomputable def sL_law_443 : List Nat := 21 :: 4 :: sL_law_445
noncomputable def sL_law_442 : List Nat := 42 :: sL_law_443
noncomputable def sL_law_441 : List Nat := 46 :: sL_law_442
noncomputable def sL_law_440 : List Nat := 96 :: sL_law_441
noncomputable def sL_law_439 : List Nat := 4 :: sL_law_440
noncomputable def sL_law_437 : List Nat := 21 :: 4 :: sL_law_439
noncomputable def sL_law_436 : List Nat := 42 :: sL_law_437
noncomputable def sL_law_435 : List Nat := 44 :: sL_law_436
noncomputable def sL_law_433 : List Nat := 54 :: 5 :: sL_law_435
noncomputable def sL_law_430 : List Nat := 184 :: 0 :: 152 :: sL_law_433
noncomputable def sL_law_429 : List Nat := 45 :: sL_law_430
noncomputable def sL_law_428 : List Nat := 46 :: sL_law_429
noncomputable def sL_law_427 : List Nat := 96 :: sL_law_428
noncomputable def sL_law_426 : List Nat := 6 :: sL_law_427
noncomputable def sL_law_424 : List Nat := 21 :: 4 :: sL_law_426
noncomputable def sL_law_423 : List Nat := 42 :: sL_law_424
noncomputable def sL_law_422 : List Nat := 46 :: sL_law_423
noncomputable def sL_law_421 : List Nat := 96 :: sL_law_422
noncomputable def sL_law_420 : List Nat := 5 :: sL_law_421
noncomputable def sL_law_418 : List Nat := 21 :: 4 :: sL_law_420
noncomputable def sL_law_417 : List Nat := 42 :: sL_law_418
noncomputable def sL_law_416 : List Nat := 46 :: sL_law_417
noncomputable def sL_law_415 : List Nat := 96 :: sL_law_416
noncomputable def sL_law_414 : List Nat := 4 :: sL_law_415
noncomputable def sL_law_412 : List Nat := 21 :: 4 :: sL_law_414
noncomputable def sL_law_411 : List Nat := 42 :: sL_law_412
noncomputable def sL_law_410 : List Nat := 43 :: sL_law_411
noncomputable def sL_law_407 : List Nat := 167 :: 6 :: 123 :: sL_law_410
noncomputable def sL_law_405 : List Nat := 54 :: 6 :: sL_law_407
noncomputable def sL_law_402 : List Nat := 182 :: 0 :: 151 :: sL_law_405
noncomputable def sL_law_401 : List Nat := 46 :: sL_law_402
noncomputable def sL_law_400 : List Nat := 96 :: sL_law_401
noncomputable def sL_law_399 : List Nat := 4 :: sL_law_400
noncomputable def sL_law_397 : List Nat := 21 :: 4 :: sL_law_399
noncomputable def sL_law_396 : List Nat := 42 :: sL_law_397
noncomputable def sL_law_395 : List Nat := 44 :: sL_law_396
noncomputable def sL_law_393 : List Nat := 54 :: 5 :: sL_law_395
noncomputable def sL_law_390 : List Nat := 184 :: 0 :: 149 :: sL_law_393
noncomputable def sL_law_389 : List Nat := 45 :: sL_law_390
noncomputable def sL_law_388 : List Nat := 46 :: sL_law_389
noncomputable def sL_law_387 : List Nat := 96 :: sL_law_388
noncomputable def sL_law_386 : List Nat := 4 :: sL_law_387
noncomputable def sL_law_384 : List Nat := 21 :: 4 :: sL_law_386
noncomputable def sL_law_383 : List Nat := 42 :: sL_law_384
noncomputable def sL_law_382 : List Nat := 43 :: sL_law_383
noncomputable def sL_law_379 : List Nat := 167 :: 6 :: 151 :: sL_law_382
noncomputable def sL_law_378 : List Nat := 87 :: sL_law_379
noncomputable def sL_law_375 : List Nat := 182 :: 0 :: 148 :: sL_law_378
noncomputable def sL_law_374 : List Nat := 44 :: sL_law_375
noncomputable def sL_law_373 : List Nat := 87 :: sL_law_374
noncomputable def sL_law_370 : List Nat := 182 :: 0 :: 144 :: sL_law_373
noncomputable def sL_law_369 : List Nat := 43 :: sL_law_370
noncomputable def sL_law_366 : List Nat := 167 :: 6 :: 164 :: sL_law_369
noncomputable def sL_law_364 : List Nat := 54 :: 6 :: sL_law_366
noncomputable def sL_law_361 : List Nat := 182 :: 0 :: 143 :: sL_law_364
noncomputable def sL_law_360 : List Nat := 46 :: sL_law_361
noncomputable def sL_law_359 : List Nat := 96 :: sL_law_360
noncomputable def sL_law_358 : List Nat := 6 :: sL_law_359
noncomputable def sL_law_356 : List Nat := 21 :: 4 :: sL_law_358
noncomputable def sL_law_355 : List Nat := 42 :: sL_law_356
noncomputable def sL_law_354 : List Nat := 46 :: sL_law_355
noncomputable def sL_law_353 : List Nat := 96 :: sL_law_354
noncomputable def sL_law_352 : List Nat := 5 :: sL_law_353
noncomputable def sL_law_350 : List Nat := 21 :: 4 :: sL_law_352
noncomputable def sL_law_349 : List Nat := 42 :: sL_law_350
noncomputable def sL_law_348 : List Nat := 46 :: sL_law_349
noncomputable def sL_law_347 : List Nat := 96 :: sL_law_348
noncomputable def sL_law_346 : List Nat := 4 :: sL_law_347
noncomputable def sL_law_344 : List Nat := 21 :: 4 :: sL_law_346
noncomputable def sL_law_343 : List Nat := 42 :: sL_law_344
noncomputable def sL_law_342 : List Nat := 44 :: sL_law_343
noncomputable def sL_law_340 : List Nat := 54 :: 5 :: sL_law_342
noncomputable def sL_law_337 : List Nat := 184 :: 0 :: 140 :: sL_law_340
noncomputable def sL_law_336 : List Nat := 45 :: sL_law_337
noncomputable def sL_law_335 : List Nat := 46 :: sL_law_336
noncomputable def sL_law_334 : List Nat := 96 :: sL_law_335
noncomputable def sL_law_333 : List Nat := 6 :: sL_law_334
noncomputable def sL_law_331 : List Nat := 21 :: 4 :: sL_law_333
noncomputable def sL_law_330 : List Nat := 42 :: sL_law_331
noncomputable def sL_law_329 : List Nat := 46 :: sL_law_330
noncomputable def sL_law_328 : List Nat := 96 :: sL_law_329
noncomputable def sL_law_327 : List Nat := 5 :: sL_law_328
noncomputable def sL_law_325 : List Nat := 21 :: 4 :: sL_law_327
noncomputable def sL_law_324 : List Nat := 42 :: sL_law_325
noncomputable def sL_law_323 : List Nat := 46 :: sL_law_324
noncomputable def sL_law_322 : List Nat := 96 :: sL_law_323
noncomputable def sL_law_321 : List Nat := 4 :: sL_law_322
noncomputable def sL_law_319 : List Nat := 21 :: 4 :: sL_law_321
noncomputable def sL_law_318 : List Nat := 42 :: sL_law_319
noncomputable def sL_law_317 : List Nat := 43 :: sL_law_318
noncomputable def sL_law_314 : List Nat := 167 :: 6 :: 216 :: sL_law_317
noncomputable def sL_law_312 : List Nat := 54 :: 6 :: sL_law_314
noncomputable def sL_law_309 : List Nat := 182 :: 0 :: 139 :: sL_law_312
noncomputable def sL_law_308 : List Nat := 46 :: sL_law_309
noncomputable def sL_law_307 : List Nat := 96 :: sL_law_308
noncomputable def sL_law_306 : List Nat := 4 :: sL_law_307
noncomputable def sL_law_304 : List Nat := 21 :: 4 :: sL_law_306
noncomputable def sL_law_303 : List Nat := 42 :: sL_law_304
noncomputable def sL_law_302 : List Nat := 44 :: sL_law_303
noncomputable def sL_law_300 : List Nat := 54 :: 5 :: sL_law_302
noncomputable def sL_law_297 : List Nat := 184 :: 0 :: 134 :: sL_law_300
noncomputable def sL_law_296 : List Nat := 45 :: sL_law_297
noncomputable def sL_law_295 : List Nat := 46 :: sL_law_296
noncomputable def sL_law_294 : List Nat := 96 :: sL_law_295
noncomputable def sL_law_293 : List Nat := 4 :: sL_law_294
noncomputable def sL_law_291 : List Nat := 21 :: 4 :: sL_law_293
noncomputable def sL_law_290 : List Nat := 42 :: sL_law_291
noncomputable def sL_law_289 : List Nat := 43 :: sL_law_290
noncomputable def sL_law_286 : List Nat := 167 :: 6 :: 244 :: sL_law_289
noncomputable def sL_law_285 : List Nat := 87 :: sL_law_286
noncomputable def sL_law_282 : List Nat := 182 :: 0 :: 133 :: sL_law_285
noncomputable def sL_law_281 : List Nat := 46 :: sL_law_282
noncomputable def sL_law_280 : List Nat := 96 :: sL_law_281
noncomputable def sL_law_279 : List Nat := 8 :: sL_law_280
noncomputable def sL_law_277 : List Nat := 21 :: 4 :: sL_law_279
noncomputable def sL_law_276 : List Nat := 42 :: sL_law_277
noncomputable def sL_law_275 : List Nat := 46 :: sL_law_276
noncomputable def sL_law_274 : List Nat := 96 :: sL_law_275
noncomputable def sL_law_273 : List Nat := 7 :: sL_law_274
noncomputable def sL_law_271 : List Nat := 21 :: 4 :: sL_law_273
noncomputable def sL_law_270 : List Nat := 42 :: sL_law_271
noncomputable def sL_law_269 : List Nat := 46 :: sL_law_270
noncomputable def sL_law_268 : List Nat := 96 :: sL_law_269
noncomputable def sL_law_267 : List Nat := 6 :: sL_law_268
noncomputable def sL_law_265 : List Nat := 21 :: 4 :: sL_law_267
noncomputable def sL_law_264 : List Nat := 42 :: sL_law_265
noncomputable def sL_law_263 : List Nat := 46 :: sL_law_264
noncomputable def sL_law_262 : List Nat := 96 :: sL_law_263
noncomputable def sL_law_261 : List Nat := 5 :: sL_law_262
noncomputable def sL_law_259 : List Nat := 21 :: 4 :: sL_law_261
noncomputable def sL_law_258 : List Nat := 42 :: sL_law_259
noncomputable def sL_law_257 : List Nat := 46 :: sL_law_258
noncomputable def sL_law_256 : List Nat := 96 :: sL_law_257
noncomputable def sL_law_255 : List Nat := 4 :: sL_law_256
noncomputable def sL_law_253 : List Nat := 21 :: 4 :: sL_law_255
noncomputable def sL_law_252 : List Nat := 42 :: sL_law_253
noncomputable def sL_law_251 : List Nat := 44 :: sL_law_252
noncomputable def sL_law_250 : List Nat := 87 :: sL_law_251
noncomputable def sL_law_247 : List Nat := 182 :: 0 :: 130 :: sL_law_250
noncomputable def sL_law_246 : List Nat := 46 :: sL_law_247
noncomputable def sL_law_245 : List Nat := 96 :: sL_law_246
noncomputable def sL_law_244 : List Nat := 8 :: sL_law_245
noncomputable def sL_law_242 : List Nat := 21 :: 4 :: sL_law_244
noncomputable def sL_law_241 : List Nat := 42 :: sL_law_242
noncomputable def sL_law_240 : List Nat := 46 :: sL_law_241
noncomputable def sL_law_239 : List Nat := 96 :: sL_law_240
noncomputable def sL_law_238 : List Nat := 7 :: sL_law_239
noncomputable def sL_law_236 : List Nat := 21 :: 4 :: sL_law_238
noncomputable def sL_law_235 : List Nat := 42 :: sL_law_236
noncomputable def sL_law_234 : List Nat := 46 :: sL_law_235
noncomputable def sL_law_233 : List Nat := 96 :: sL_law_234
noncomputable def sL_law_232 : List Nat := 6 :: sL_law_233
noncomputable def sL_law_230 : List Nat := 21 :: 4 :: sL_law_232
noncomputable def sL_law_229 : List Nat := 42 :: sL_law_230
noncomputable def sL_law_228 : List Nat := 46 :: sL_law_229
noncomputable def sL_law_227 : List Nat := 96 :: sL_law_228
noncomputable def sL_law_226 : List Nat := 5 :: sL_law_227
noncomputable def sL_law_224 : List Nat := 21 :: 4 :: sL_law_226
noncomputable def sL_law_223 : List Nat := 42 :: sL_law_224
noncomputable def sL_law_222 : List Nat := 46 :: sL_law_223
noncomputable def sL_law_221 : List Nat := 96 :: sL_law_222
noncomputable def sL_law_220 : List Nat := 4 :: sL_law_221
noncomputable def sL_law_218 : List Nat := 21 :: 4 :: sL_law_220
noncomputable def sL_law_217 : List Nat := 42 :: sL_law_218
noncomputable def sL_law_216 : List Nat := 43 :: sL_law_217
noncomputable def sL_law_40 : List Nat := 170 :: 0 :: 0 :: 0 :: 0 :: 0 :: 7 :: 234 :: 0 :: 0 :: 0 :: 0 :: 0 :: 0 :: 0 :: 39 :: 0 :: 0 :: 0 :: 176 :: 0 :: 0 :: 0 :: 249 :: 0 :: 0 :: 1 :: 21 :: 0 :: 0 :: 1 :: 73 :: 0 :: 0 :: 1 :: 86 :: 0 :: 0 :: 1 :: 114 :: 0 :: 0 :: 1 :: 166 :: 0 :: 0 :: 1 :: 218 :: 0 :: 0 :: 2 :: 26 :: 0 :: 0 :: 2 :: 102 :: 0 :: 0 :: 2 :: 130 :: 0 :: 0 :: 2 :: 206 :: 0 :: 0 :: 3 :: 14 :: 0 :: 0 :: 3 :: 54 :: 0 :: 0 :: 3 :: 106 :: 0 :: 0 :: 3 :: 146 :: 0 :: 0 :: 3 :: 198 :: 0 :: 0 :: 4 :: 6 :: 0 :: 0 :: 4 :: 70 :: 0 :: 0 :: 4 :: 122 :: 0 :: 0 :: 4 :: 162 :: 0 :: 0 :: 4 :: 223 :: 0 :: 0 :: 4 :: 251 :: 0 :: 0 :: 5 :: 23 :: 0 :: 0 :: 5 :: 36 :: 0 :: 0 :: 5 :: 49 :: 0 :: 0 :: 5 :: 125 :: 0 :: 0 :: 5 :: 189 :: 0 :: 0 :: 5 :: 241 :: 0 :: 0 :: 6 :: 25 :: 0 :: 0 :: 6 :: 105 :: 0 :: 0 :: 6 :: 145 :: 0 :: 0 :: 6 :: 197 :: 0 :: 0 :: 6 :: 249 :: 0 :: 0 :: 7 :: 33 :: 0 :: 0 :: 7 :: 46 :: 0 :: 0 :: 7 :: 74 :: 0 :: 0 :: 7 :: 126 :: 0 :: 0 :: 7 :: 166 :: 0 :: 0 :: 7 :: 194 :: sL_law_216
noncomputable def sL_law_39 : List Nat := 126 :: sL_law_40
noncomputable def sL_law_37 : List Nat := 16 :: 63 :: sL_law_39
noncomputable def sL_law_36 : List Nat := 46 :: sL_law_37
noncomputable def sL_law_34 : List Nat := 21 :: 4 :: sL_law_36
noncomputable def sL_law_33 : List Nat := 42 :: sL_law_34
noncomputable def sL_law_30 : List Nat := 163 :: 7 :: 250 :: sL_law_33
noncomputable def sL_law_29 : List Nat := 100 :: sL_law_30
noncomputable def sL_law_27 : List Nat := 16 :: 6 :: sL_law_29
noncomputable def sL_law_26 : List Nat := 190 :: sL_law_27
noncomputable def sL_law_25 : List Nat := 42 :: sL_law_26
noncomputable def sL_law_23 : List Nat := 21 :: 4 :: sL_law_25
noncomputable def sL_law_21 : List Nat := 54 :: 4 :: sL_law_23
noncomputable def sL_law_20 : List Nat := 3 :: sL_law_21
noncomputable def sL_law_19 : List Nat := 78 :: sL_law_20
noncomputable def sL_law_17 : List Nat := 188 :: 11 :: sL_law_19
noncomputable def sL_law_16 : List Nat := 4 :: sL_law_17
noncomputable def sL_law_15 : List Nat := 77 :: sL_law_16
noncomputable def sL_law_12 : List Nat := 183 :: 0 :: 129 :: sL_law_15
noncomputable def sL_law_11 : List Nat := 89 :: sL_law_12
noncomputable def sL_law_8 : List Nat := 187 :: 0 :: 127 :: sL_law_11
noncomputable def sL_law_7 : List Nat := 76 :: sL_law_8
noncomputable def sL_law_4 : List Nat := 183 :: 0 :: 126 :: sL_law_7
noncomputable def sL_law_3 : List Nat := 89 :: sL_law_4
noncomputable def sL_law_0 : List Nat := 187 :: 0 :: 8 :: sL_law_3
theorem aL_law_0 : dc_at cL_law 0 sL_law_0 := dc_base (by decide +kernel)
theorem aL_law_3 : dc_at cL_law 3 sL_law_3 := dc_n3 aL_law_0
theorem aL_law_4 : dc_at cL_law 4 sL_law_4 := dc_n1 aL_law_3
theorem aL_law_7 : dc_at cL_law 7 sL_law_7 := dc_n3 aL_law_4
theorem aL_law_8 : dc_at cL_law 8 sL_law_8 := dc_n1 aL_law_7
theorem aL_law_11 : dc_at cL_law 11 sL_law_11 := dc_n3 aL_law_8
theorem aL_law_12 : dc_at cL_law 12 sL_law_12 := dc_n1 aL_law_11
theorem aL_law_15 : dc_at cL_law 15 sL_law_15 := dc_n3 aL_law_12
theorem aL_law_16 : dc_at cL_law 16 sL_law_16 := dc_n1 aL_law_15
theorem aL_law_17 : dc_at cL_law 17 sL_law_17 := dc_n1 aL_law_16
theorem aL_law_19 : dc_at cL_law 19 sL_law_19 := dc_n2 aL_law_17
theorem aL_law_20 : dc_at cL_law 20 sL_law_20 := dc_n1 aL_law_19
theorem aL_law_21 : dc_at cL_law 21 sL_law_21 := dc_n1 aL_law_20
theorem aL_law_23 : dc_at cL_law 23 sL_law_23 := dc_n2 aL_law_21
theorem aL_law_25 : dc_at cL_law 25 sL_law_25 := dc_n2 aL_law_23
theorem aL_law_26 : dc_at cL_law 26 sL_law_26 := dc_n1 aL_law_25
theorem aL_law_27 : dc_at cL_law 27 sL_law_27 := dc_n1 aL_law_26
theorem aL_law_29 : dc_at cL_law 29 sL_law_29 := dc_n2 aL_law_27
theorem aL_law_30 : dc_at cL_law 30 sL_law_30 := dc_n1 aL_law_29
theorem aL_law_33 : dc_at cL_law 33 sL_law_33 := dc_n3 aL_law_30
theorem aL_law_34 : dc_at cL_law 34 sL_law_34 := dc_n1 aL_law_33
theorem aL_law_36 : dc_at cL_law 36 sL_law_36 := dc_n2 aL_law_34
theorem aL_law_37 : dc_at cL_law 37 sL_law_37 := dc_n1 aL_law_36
theorem aL_law_39 : dc_at cL_law 39 sL_law_39 := dc_n2 aL_law_37
theorem aL_law_40 : dc_at cL_law 40 sL_law_40 := dc_n1 aL_law_39
theorem aL_law_216 : dc_at cL_law 216 sL_law_216 := dc_nn (k := 176) aL_law_40 rfl
theorem aL_law_217 : dc_at cL_law 217 sL_law_217 := dc_n1 aL_law_216
theorem aL_law_218 : dc_at cL_law 218 sL_law_218 := dc_n1 aL_law_217
theorem aL_law_220 : dc_at cL_law 220 sL_law_220 := dc_n2 aL_law_218
theorem aL_law_221 : dc_at cL_law 221 sL_law_221 := dc_n1 aL_law_220
theorem aL_law_222 : dc_at cL_law 222 sL_law_222 := dc_n1 aL_law_221
theorem aL_law_223 : dc_at cL_law 223 sL_law_223 := dc_n1 aL_law_222
theorem aL_law_224 : dc_at cL_law 224 sL_law_224 := dc_n1 aL_law_223
theorem aL_law_226 : dc_at cL_law 226 sL_law_226 := dc_n2 aL_law_224
theorem aL_law_227 : dc_at cL_law 227 sL_law_227 := dc_n1 aL_law_226
theorem aL_law_228 : dc_at cL_law 228 sL_law_228 := dc_n1 aL_law_227
theorem aL_law_229 : dc_at cL_law 229 sL_law_229 := dc_n1 aL_law_228
theorem aL_law_230 : dc_at cL_law 230 sL_law_230 := dc_n1 aL_law_229
theorem aL_law_232 : dc_at cL_law 232 sL_law_232 := dc_n2 aL_law_230
theorem aL_law_233 : dc_at cL_law 233 sL_law_233 := dc_n1 aL_law_232
theorem aL_law_234 : dc_at cL_law 234 sL_law_234 := dc_n1 aL_law_233
theorem aL_law_235 : dc_at cL_law 235 sL_law_235 := dc_n1 aL_law_234
theorem aL_law_236 : dc_at cL_law 236 sL_law_236 := dc_n1 aL_law_235
theorem aL_law_238 : dc_at cL_law 238 sL_law_238 := dc_n2 aL_law_236
theorem aL_law_239 : dc_at cL_law 239 sL_law_239 := dc_n1 aL_law_238
theorem aL_law_240 : dc_at cL_law 240 sL_law_240 := dc_n1 aL_law_239
theorem aL_law_241 : dc_at cL_law 241 sL_law_241 := dc_n1 aL_law_240
theorem aL_law_242 : dc_at cL_law 242 sL_law_242 := dc_n1 aL_law_241
theorem aL_law_244 : dc_at cL_law 244 sL_law_244 := dc_n2 aL_law_242
theorem aL_law_245 : dc_at cL_law 245 sL_law_245 := dc_n1 aL_law_244
theorem aL_law_246 : dc_at cL_law 246 sL_law_246 := dc_n1 aL_law_245
theorem aL_law_247 : dc_at cL_law 247 sL_law_247 := dc_n1 aL_law_246
theorem aL_law_250 : dc_at cL_law 250 sL_law_250 := dc_n3 aL_law_247
theorem aL_law_251 : dc_at cL_law 251 sL_law_251 := dc_n1 aL_law_250
theorem aL_law_252 : dc_at cL_law 252 sL_law_252 := dc_n1 aL_law_251
theorem aL_law_253 : dc_at cL_law 253 sL_law_253 := dc_n1 aL_law_252
theorem aL_law_255 : dc_at cL_law 255 sL_law_255 := dc_n2 aL_law_253
theorem aL_law_256 : dc_at cL_law 256 sL_law_256 := dc_n1 aL_law_255
theorem aL_law_257 : dc_at cL_law 257 sL_law_257 := dc_n1 aL_law_256
theorem aL_law_258 : dc_at cL_law 258 sL_law_258 := dc_n1 aL_law_257
theorem aL_law_259 : dc_at cL_law 259 sL_law_259 := dc_n1 aL_law_258
theorem aL_law_261 : dc_at cL_law 261 sL_law_261 := dc_n2 aL_law_259
theorem aL_law_262 : dc_at cL_law 262 sL_law_262 := dc_n1 aL_law_261
theorem aL_law_263 : dc_at cL_law 263 sL_law_263 := dc_n1 aL_law_262
theorem aL_law_264 : dc_at cL_law 264 sL_law_264 := dc_n1 aL_law_263
theorem aL_law_265 : dc_at cL_law 265 sL_law_265 := dc_n1 aL_law_264
theorem aL_law_267 : dc_at cL_law 267 sL_law_267 := dc_n2 aL_law_265
theorem aL_law_268 : dc_at cL_law 268 sL_law_268 := dc_n1 aL_law_267
theorem aL_law_269 : dc_at cL_law 269 sL_law_269 := dc_n1 aL_law_268
theorem aL_law_270 : dc_at cL_law 270 sL_law_270 := dc_n1 aL_law_269
theorem aL_law_271 : dc_at cL_law 271 sL_law_271 := dc_n1 aL_law_270
theorem aL_law_273 : dc_at cL_law 273 sL_law_273 := dc_n2 aL_law_271
theorem aL_law_274 : dc_at cL_law 274 sL_law_274 := dc_n1 aL_law_273
theorem aL_law_275 : dc_at cL_law 275 sL_law_275 := dc_n1 aL_law_274
theorem aL_law_276 : dc_at cL_law 276 sL_law_276 := dc_n1 aL_law_275
theorem aL_law_277 : dc_at cL_law 277 sL_law_277 := dc_n1 aL_law_276
theorem aL_law_279 : dc_at cL_law 279 sL_law_279 := dc_n2 aL_law_277
theorem aL_law_280 : dc_at cL_law 280 sL_law_280 := dc_n1 aL_law_279
theorem aL_law_281 : dc_at cL_law 281 sL_law_281 := dc_n1 aL_law_280
theorem aL_law_282 : dc_at cL_law 282 sL_law_282 := dc_n1 aL_law_281
theorem aL_law_285 : dc_at cL_law 285 sL_law_285 := dc_n3 aL_law_282
theorem aL_law_286 : dc_at cL_law 286 sL_law_286 := dc_n1 aL_law_285
theorem aL_law_289 : dc_at cL_law 289 sL_law_289 := dc_n3 aL_law_286
theorem aL_law_290 : dc_at cL_law 290 sL_law_290 := dc_n1 aL_law_289
theorem aL_law_291 : dc_at cL_law 291 sL_law_291 := dc_n1 aL_law_290
theorem aL_law_293 : dc_at cL_law 293 sL_law_293 := dc_n2 aL_law_291
theorem aL_law_294 : dc_at cL_law 294 sL_law_294 := dc_n1 aL_law_293
theorem aL_law_295 : dc_at cL_law 295 sL_law_295 := dc_n1 aL_law_294
theorem aL_law_296 : dc_at cL_law 296 sL_law_296 := dc_n1 aL_law_295
theorem aL_law_297 : dc_at cL_law 297 sL_law_297 := dc_n1 aL_law_296
theorem aL_law_300 : dc_at cL_law 300 sL_law_300 := dc_n3 aL_law_297
theorem aL_law_302 : dc_at cL_law 302 sL_law_302 := dc_n2 aL_law_300
theorem aL_law_303 : dc_at cL_law 303 sL_law_303 := dc_n1 aL_law_302
theorem aL_law_304 : dc_at cL_law 304 sL_law_304 := dc_n1 aL_law_303
theorem aL_law_306 : dc_at cL_law 306 sL_law_306 := dc_n2 aL_law_304
theorem aL_law_307 : dc_at cL_law 307 sL_law_307 := dc_n1 aL_law_306
theorem aL_law_308 : dc_at cL_law 308 sL_law_308 := dc_n1 aL_law_307
theorem aL_law_309 : dc_at cL_law 309 sL_law_309 := dc_n1 aL_law_308
theorem aL_law_312 : dc_at cL_law 312 sL_law_312 := dc_n3 aL_law_309
theorem aL_law_314 : dc_at cL_law 314 sL_law_314 := dc_n2 aL_law_312
theorem aL_law_317 : dc_at cL_law 317 sL_law_317 := dc_n3 aL_law_314
theorem aL_law_318 : dc_at cL_law 318 sL_law_318 := dc_n1 aL_law_317
theorem aL_law_319 : dc_at cL_law 319 sL_law_319 := dc_n1 aL_law_318
theorem aL_law_321 : dc_at cL_law 321 sL_law_321 := dc_n2 aL_law_319
theorem aL_law_322 : dc_at cL_law 322 sL_law_322 := dc_n1 aL_law_321
theorem aL_law_323 : dc_at cL_law 323 sL_law_323 := dc_n1 aL_law_322
theorem aL_law_324 : dc_at cL_law 324 sL_law_324 := dc_n1 aL_law_323
theorem aL_law_325 : dc_at cL_law 325 sL_law_325 := dc_n1 aL_law_324
theorem aL_law_327 : dc_at cL_law 327 sL_law_327 := dc_n2 aL_law_325
theorem aL_law_328 : dc_at cL_law 328 sL_law_328 := dc_n1 aL_law_327
theorem aL_law_329 : dc_at cL_law 329 sL_law_329 := dc_n1 aL_law_328
theorem aL_law_330 : dc_at cL_law 330 sL_law_330 := dc_n1 aL_law_329
theorem aL_law_331 : dc_at cL_law 331 sL_law_331 := dc_n1 aL_law_330
theorem aL_law_333 : dc_at cL_law 333 sL_law_333 := dc_n2 aL_law_331
theorem aL_law_334 : dc_at cL_law 334 sL_law_334 := dc_n1 aL_law_333
theorem aL_law_335 : dc_at cL_law 335 sL_law_335 := dc_n1 aL_law_334
theorem aL_law_336 : dc_at cL_law 336 sL_law_336 := dc_n1 aL_law_335
theorem aL_law_337 : dc_at cL_law 337 sL_law_337 := dc_n1 aL_law_336
theorem aL_law_340 : dc_at cL_law 340 sL_law_340 := dc_n3 aL_law_337
theorem aL_law_342 : dc_at cL_law 342 sL_law_342 := dc_n2 aL_law_340
theorem aL_law_343 : dc_at cL_law 343 sL_law_343 := dc_n1 aL_law_342
theorem aL_law_344 : dc_at cL_law 344 sL_law_344 := dc_n1 aL_law_343
theorem aL_law_346 : dc_at cL_law 346 sL_law_346 := dc_n2 aL_law_344
theorem aL_law_347 : dc_at cL_law 347 sL_law_347 := dc_n1 aL_law_346
theorem aL_law_348 : dc_at cL_law 348 sL_law_348 := dc_n1 aL_law_347
theorem aL_law_349 : dc_at cL_law 349 sL_law_349 := dc_n1 aL_law_348
theorem aL_law_350 : dc_at cL_law 350 sL_law_350 := dc_n1 aL_law_349
theorem aL_law_352 : dc_at cL_law 352 sL_law_352 := dc_n2 aL_law_350
theorem aL_law_353 : dc_at cL_law 353 sL_law_353 := dc_n1 aL_law_352
theorem aL_law_354 : dc_at cL_law 354 sL_law_354 := dc_n1 aL_law_353
theorem aL_law_355 : dc_at cL_law 355 sL_law_355 := dc_n1 aL_law_354
theorem aL_law_356 : dc_at cL_law 356 sL_law_356 := dc_n1 aL_law_355
theorem aL_law_358 : dc_at cL_law 358 sL_law_358 := dc_n2 aL_law_356
theorem aL_law_359 : dc_at cL_law 359 sL_law_359 := dc_n1 aL_law_358
theorem aL_law_360 : dc_at cL_law 360 sL_law_360 := dc_n1 aL_law_359
theorem aL_law_361 : dc_at cL_law 361 sL_law_361 := dc_n1 aL_law_360
theorem aL_law_364 : dc_at cL_law 364 sL_law_364 := dc_n3 aL_law_361
theorem aL_law_366 : dc_at cL_law 366 sL_law_366 := dc_n2 aL_law_364
theorem aL_law_369 : dc_at cL_law 369 sL_law_369 := dc_n3 aL_law_366
theorem aL_law_370 : dc_at cL_law 370 sL_law_370 := dc_n1 aL_law_369
theorem aL_law_373 : dc_at cL_law 373 sL_law_373 := dc_n3 aL_law_370
theorem aL_law_374 : dc_at cL_law 374 sL_law_374 := dc_n1 aL_law_373
theorem aL_law_375 : dc_at cL_law 375 sL_law_375 := dc_n1 aL_law_374
theorem aL_law_378 : dc_at cL_law 378 sL_law_378 := dc_n3 aL_law_375
theorem aL_law_379 : dc_at cL_law 379 sL_law_379 := dc_n1 aL_law_378
theorem aL_law_382 : dc_at cL_law 382 sL_law_382 := dc_n3 aL_law_379
theorem aL_law_383 : dc_at cL_law 383 sL_law_383 := dc_n1 aL_law_382
theorem aL_law_384 : dc_at cL_law 384 sL_law_384 := dc_n1 aL_law_383
theorem aL_law_386 : dc_at cL_law 386 sL_law_386 := dc_n2 aL_law_384
theorem aL_law_387 : dc_at cL_law 387 sL_law_387 := dc_n1 aL_law_386
theorem aL_law_388 : dc_at cL_law 388 sL_law_388 := dc_n1 aL_law_387
theorem aL_law_389 : dc_at cL_law 389 sL_law_389 := dc_n1 aL_law_388
theorem aL_law_390 : dc_at cL_law 390 sL_law_390 := dc_n1 aL_law_389
theorem aL_law_393 : dc_at cL_law 393 sL_law_393 := dc_n3 aL_law_390
theorem aL_law_395 : dc_at cL_law 395 sL_law_395 := dc_n2 aL_law_393
theorem aL_law_396 : dc_at cL_law 396 sL_law_396 := dc_n1 aL_law_395
theorem aL_law_397 : dc_at cL_law 397 sL_law_397 := dc_n1 aL_law_396
theorem aL_law_399 : dc_at cL_law 399 sL_law_399 := dc_n2 aL_law_397
theorem aL_law_400 : dc_at cL_law 400 sL_law_400 := dc_n1 aL_law_399
theorem aL_law_401 : dc_at cL_law 401 sL_law_401 := dc_n1 aL_law_400
theorem aL_law_402 : dc_at cL_law 402 sL_law_402 := dc_n1 aL_law_401
theorem aL_law_405 : dc_at cL_law 405 sL_law_405 := dc_n3 aL_law_402
theorem aL_law_407 : dc_at cL_law 407 sL_law_407 := dc_n2 aL_law_405
theorem aL_law_410 : dc_at cL_law 410 sL_law_410 := dc_n3 aL_law_407
theorem aL_law_411 : dc_at cL_law 411 sL_law_411 := dc_n1 aL_law_410
theorem aL_law_412 : dc_at cL_law 412 sL_law_412 := dc_n1 aL_law_411
theorem aL_law_414 : dc_at cL_law 414 sL_law_414 := dc_n2 aL_law_412
theorem aL_law_415 : dc_at cL_law 415 sL_law_415 := dc_n1 aL_law_414
theorem aL_law_416 : dc_at cL_law 416 sL_law_416 := dc_n1 aL_law_415
theorem aL_law_417 : dc_at cL_law 417 sL_law_417 := dc_n1 aL_law_416
theorem aL_law_418 : dc_at cL_law 418 sL_law_418 := dc_n1 aL_law_417
theorem aL_law_420 : dc_at cL_law 420 sL_law_420 := dc_n2 aL_law_418
theorem aL_law_421 : dc_at cL_law 421 sL_law_421 := dc_n1 aL_law_420
theorem aL_law_422 : dc_at cL_law 422 sL_law_422 := dc_n1 aL_law_421
theorem aL_law_423 : dc_at cL_law 423 sL_law_423 := dc_n1 aL_law_422
theorem aL_law_424 : dc_at cL_law 424 sL_law_424 := dc_n1 aL_law_423
theorem aL_law_426 : dc_at cL_law 426 sL_law_426 := dc_n2 aL_law_424
theorem aL_law_427 : dc_at cL_law 427 sL_law_427 := dc_n1 aL_law_426
theorem aL_law_428 : dc_at cL_law 428 sL_law_428 := dc_n1 aL_law_427
theorem aL_law_429 : dc_at cL_law 429 sL_law_429 := dc_n1 aL_law_428
theorem aL_law_430 : dc_at cL_law 430 sL_law_430 := dc_n1 aL_law_429
theorem aL_law_433 : dc_at cL_law 433 sL_law_433 := dc_n3 aL_law_430
theorem aL_law_435 : dc_at cL_law 435 sL_law_435 := dc_n2 aL_law_433
theorem aL_law_436 : dc_at cL_law 436 sL_law_436 := dc_n1 aL_law_435
theorem aL_law_437 : dc_at cL_law 437 sL_law_437 := dc_n1 aL_law_436
theorem aL_law_439 : dc_at cL_law 439 sL_law_439 := dc_n2 aL_law_437
theorem aL_law_440 : dc_at cL_law 440 sL_law_440 := dc_n1 aL_law_439
theorem aL_law_441 : dc_at cL_law 441 sL_law_441 := dc_n1 aL_law_440
theorem aL_law_442 : dc_at cL_law 442 sL_law_442 := dc_n1 aL_law_441
theorem aL_law_443 : dc_at cL_law 443 sL_law_443 := dc_n1 aL_law_442
theorem aL_law_445 : dc_at cL_law 445 sL_law_445 := dc_n2 aL_law_443
theorem aL_law_446 : dc_at cL_law 446 sL_law_446 := dc_n1 aL_law_445
theorem aL_law_447 : dc_at cL_law 447 sL_law_447 := dc_n1 aL_law_446
theorem aL_law_448 : dc_at cL_law 448 sL_law_448 := dc_n1 aL_law_447
theorem aL_law_449 : dc_at cL_law 449 sL_law_449 := dc_n1 aL_law_448
theorem aL_law_451 : dc_at cL_law 451 sL_law_451 := dc_n2 aL_law_449
theorem aL_law_452 : dc_at cL_law 452 sL_law_452 := dc_n1 aL_law_451
theorem aL_law_453 : dc_at cL_law 453 sL_law_453 := dc_n1 aL_law_452
theorem aL_law_454 : dc_at cL_law 454 sL_law_454 := dc_n1 aL_law_453
theorem aL_law_457 : dc_at cL_law 457 sL_law_457 := dc_n3 aL_law_454
theorem aL_law_459 : dc_at cL_law 459 sL_law_459 := dc_n2 aL_law_457
theorem aL_law_462 : dc_at cL_law 462 sL_law_462 := dc_n3 aL_law_459
theorem aL_law_463 : dc_at cL_law 463 sL_law_463 := dc_n1 aL_law_462
theorem aL_law_464 : dc_at cL_law 464 sL_law_464 := dc_n1 aL_law_463
theorem aL_law_466 : dc_at cL_law 466 sL_law_466 := dc_n2 aL_law_464
theorem aL_law_467 : dc_at cL_law 467 sL_law_467 := dc_n1 aL_law_466
theorem aL_law_468 : dc_at cL_law 468 sL_law_468 := dc_n1 aL_law_467
theorem aL_law_469 : dc_at cL_law 469 sL_law_469 := dc_n1 aL_law_468
theorem aL_law_470 : dc_at cL_law 470 sL_law_470 := dc_n1 aL_law_469
theorem aL_law_472 : dc_at cL_law 472 sL_law_472 := dc_n2 aL_law_470
theorem aL_law_473 : dc_at cL_law 473 sL_law_473 := dc_n1 aL_law_472
theorem aL_law_474 : dc_at cL_law 474 sL_law_474 := dc_n1 aL_law_473
theorem aL_law_475 : dc_at cL_law 475 sL_law_475 := dc_n1 aL_law_474
theorem aL_law_476 : dc_at cL_law 476 sL_law_476 := dc_n1 aL_law_475
theorem aL_law_478 : dc_at cL_law 478 sL_law_478 := dc_n2 aL_law_476
theorem aL_law_479 : dc_at cL_law 479 sL_law_479 := dc_n1 aL_law_478
theorem aL_law_480 : dc_at cL_law 480 sL_law_480 := dc_n1 aL_law_479
theorem aL_law_481 : dc_at cL_law 481 sL_law_481 := dc_n1 aL_law_480
theorem aL_law_482 : dc_at cL_law 482 sL_law_482 := dc_n1 aL_law_481
theorem aL_law_485 : dc_at cL_law 485 sL_law_485 := dc_n3 aL_law_482
theorem aL_law_487 : dc_at cL_law 487 sL_law_487 := dc_n2 aL_law_485
theorem aL_law_488 : dc_at cL_law 488 sL_law_488 := dc_n1 aL_law_487
theorem aL_law_489 : dc_at cL_law 489 sL_law_489 := dc_n1 aL_law_488
theorem aL_law_491 : dc_at cL_law 491 sL_law_491 := dc_n2 aL_law_489
theorem aL_law_492 : dc_at cL_law 492 sL_law_492 := dc_n1 aL_law_491
theorem aL_law_493 : dc_at cL_law 493 sL_law_493 := dc_n1 aL_law_492
theorem aL_law_494 : dc_at cL_law 494 sL_law_494 := dc_n1 aL_law_493
theorem aL_law_495 : dc_at cL_law 495 sL_law_495 := dc_n1 aL_law_494
theorem aL_law_497 : dc_at cL_law 497 sL_law_497 := dc_n2 aL_law_495
theorem aL_law_498 : dc_at cL_law 498 sL_law_498 := dc_n1 aL_law_497
theorem aL_law_499 : dc_at cL_law 499 sL_law_499 := dc_n1 aL_law_498
theorem aL_law_500 : dc_at cL_law 500 sL_law_500 := dc_n1 aL_law_499
theorem aL_law_501 : dc_at cL_law 501 sL_law_501 := dc_n1 aL_law_500
theorem aL_law_503 : dc_at cL_law 503 sL_law_503 := dc_n2 aL_law_501
theorem aL_law_504 : dc_at cL_law 504 sL_law_504 := dc_n1 aL_law_503
theorem aL_law_505 : dc_at cL_law 505 sL_law_505 := dc_n1 aL_law_504
theorem aL_law_506 : dc_at cL_law 506 sL_law_506 := dc_n1 aL_law_505
theorem aL_law_509 : dc_at cL_law 509 sL_law_509 := dc_n3 aL_law_506
theorem aL_law_511 : dc_at cL_law 511 sL_law_511 := dc_n2 aL_law_509
theorem aL_law_514 : dc_at cL_law 514 sL_law_514 := dc_n3 aL_law_511
theorem aL_law_515 : dc_at cL_law 515 sL_law_515 := dc_n1 aL_law_514
theorem aL_law_516 : dc_at cL_law 516 sL_law_516 := dc_n1 aL_law_515
theorem aL_law_518 : dc_at cL_law 518 sL_law_518 := dc_n2 aL_law_516
theorem aL_law_519 : dc_at cL_law 519 sL_law_519 := dc_n1 aL_law_518
theorem aL_law_520 : dc_at cL_law 520 sL_law_520 := dc_n1 aL_law_519
theorem aL_law_521 : dc_at cL_law 521 sL_law_521 := dc_n1 aL_law_520
theorem aL_law_522 : dc_at cL_law 522 sL_law_522 := dc_n1 aL_law_521
theorem aL_law_524 : dc_at cL_law 524 sL_law_524 := dc_n2 aL_law_522
theorem aL_law_525 : dc_at cL_law 525 sL_law_525 := dc_n1 aL_law_524
theorem aL_law_526 : dc_at cL_law 526 sL_law_526 := dc_n1 aL_law_525
theorem aL_law_527 : dc_at cL_law 527 sL_law_527 := dc_n1 aL_law_526
theorem aL_law_528 : dc_at cL_law 528 sL_law_528 := dc_n1 aL_law_527
theorem aL_law_530 : dc_at cL_law 530 sL_law_530 := dc_n2 aL_law_528
theorem aL_law_531 : dc_at cL_law 531 sL_law_531 := dc_n1 aL_law_530
theorem aL_law_532 : dc_at cL_law 532 sL_law_532 := dc_n1 aL_law_531
theorem aL_law_533 : dc_at cL_law 533 sL_law_533 := dc_n1 aL_law_532
theorem aL_law_534 : dc_at cL_law 534 sL_law_534 := dc_n1 aL_law_533
theorem aL_law_536 : dc_at cL_law 536 sL_law_536 := dc_n2 aL_law_534
theorem aL_law_537 : dc_at cL_law 537 sL_law_537 := dc_n1 aL_law_536
theorem aL_law_538 : dc_at cL_law 538 sL_law_538 := dc_n1 aL_law_537
theorem aL_law_539 : dc_at cL_law 539 sL_law_539 := dc_n1 aL_law_538
theorem aL_law_540 : dc_at cL_law 540 sL_law_540 := dc_n1 aL_law_539
theorem aL_law_543 : dc_at cL_law 543 sL_law_543 := dc_n3 aL_law_540
theorem aL_law_545 : dc_at cL_law 545 sL_law_545 := dc_n2 aL_law_543
theorem aL_law_546 : dc_at cL_law 546 sL_law_546 := dc_n1 aL_law_545
theorem aL_law_547 : dc_at cL_law 547 sL_law_547 := dc_n1 aL_law_546
theorem aL_law_549 : dc_at cL_law 549 sL_law_549 := dc_n2 aL_law_547
theorem aL_law_550 : dc_at cL_law 550 sL_law_550 := dc_n1 aL_law_549
theorem aL_law_551 : dc_at cL_law 551 sL_law_551 := dc_n1 aL_law_550
theorem aL_law_552 : dc_at cL_law 552 sL_law_552 := dc_n1 aL_law_551
theorem aL_law_553 : dc_at cL_law 553 sL_law_553 := dc_n1 aL_law_552
theorem aL_law_555 : dc_at cL_law 555 sL_law_555 := dc_n2 aL_law_553
theorem aL_law_556 : dc_at cL_law 556 sL_law_556 := dc_n1 aL_law_555
theorem aL_law_557 : dc_at cL_law 557 sL_law_557 := dc_n1 aL_law_556
theorem aL_law_558 : dc_at cL_law 558 sL_law_558 := dc_n1 aL_law_557
theorem aL_law_559 : dc_at cL_law 559 sL_law_559 := dc_n1 aL_law_558
theorem aL_law_561 : dc_at cL_law 561 sL_law_561 := dc_n2 aL_law_559
theorem aL_law_562 : dc_at cL_law 562 sL_law_562 := dc_n1 aL_law_561
theorem aL_law_563 : dc_at cL_law 563 sL_law_563 := dc_n1 aL_law_562
theorem aL_law_564 : dc_at cL_law 564 sL_law_564 := dc_n1 aL_law_563
theorem aL_law_565 : dc_at cL_law 565 sL_law_565 := dc_n1 aL_law_564
theorem aL_law_567 : dc_at cL_law 567 sL_law_567 := dc_n2 aL_law_565
theorem aL_law_568 : dc_at cL_law 568 sL_law_568 := dc_n1 aL_law_567
theorem aL_law_569 : dc_at cL_law 569 sL_law_569 := dc_n1 aL_law_568
theorem aL_law_570 : dc_at cL_law 570 sL_law_570 := dc_n1 aL_law_569
theorem aL_law_573 : dc_at cL_law 573 sL_law_573 := dc_n3 aL_law_570
theorem aL_law_575 : dc_at cL_law 575 sL_law_575 := dc_n2 aL_law_573
theorem aL_law_578 : dc_at cL_law 578 sL_law_578 := dc_n3 aL_law_575
theorem aL_law_579 : dc_at cL_law 579 sL_law_579 := dc_n1 aL_law_578
theorem aL_law_580 : dc_at cL_law 580 sL_law_580 := dc_n1 aL_law_579
theorem aL_law_582 : dc_at cL_law 582 sL_law_582 := dc_n2 aL_law_580
theorem aL_law_583 : dc_at cL_law 583 sL_law_583 := dc_n1 aL_law_582
theorem aL_law_584 : dc_at cL_law 584 sL_law_584 := dc_n1 aL_law_583
theorem aL_law_585 : dc_at cL_law 585 sL_law_585 := dc_n1 aL_law_584
theorem aL_law_586 : dc_at cL_law 586 sL_law_586 := dc_n1 aL_law_585
theorem aL_law_588 : dc_at cL_law 588 sL_law_588 := dc_n2 aL_law_586
theorem aL_law_589 : dc_at cL_law 589 sL_law_589 := dc_n1 aL_law_588
theorem aL_law_590 : dc_at cL_law 590 sL_law_590 := dc_n1 aL_law_589
theorem aL_law_591 : dc_at cL_law 591 sL_law_591 := dc_n1 aL_law_590
theorem aL_law_592 : dc_at cL_law 592 sL_law_592 := dc_n1 aL_law_591
theorem aL_law_594 : dc_at cL_law 594 sL_law_594 := dc_n2 aL_law_592
theorem aL_law_595 : dc_at cL_law 595 sL_law_595 := dc_n1 aL_law_594
theorem aL_law_596 : dc_at cL_law 596 sL_law_596 := dc_n1 aL_law_595
theorem aL_law_597 : dc_at cL_law 597 sL_law_597 := dc_n1 aL_law_596
theorem aL_law_598 : dc_at cL_law 598 sL_law_598 := dc_n1 aL_law_597
theorem aL_law_600 : dc_at cL_law 600 sL_law_600 := dc_n2 aL_law_598
theorem aL_law_601 : dc_at cL_law 601 sL_law_601 := dc_n1 aL_law_600
theorem aL_law_602 : dc_at cL_law 602 sL_law_602 := dc_n1 aL_law_601
theorem aL_law_603 : dc_at cL_law 603 sL_law_603 := dc_n1 aL_law_602
theorem aL_law_604 : dc_at cL_law 604 sL_law_604 := dc_n1 aL_law_603
theorem aL_law_606 : dc_at cL_law 606 sL_law_606 := dc_n2 aL_law_604
theorem aL_law_607 : dc_at cL_law 607 sL_law_607 := dc_n1 aL_law_606
theorem aL_law_608 : dc_at cL_law 608 sL_law_608 := dc_n1 aL_law_607
theorem aL_law_609 : dc_at cL_law 609 sL_law_609 := dc_n1 aL_law_608
theorem aL_law_610 : dc_at cL_law 610 sL_law_610 := dc_n1 aL_law_609
theorem aL_law_613 : dc_at cL_law 613 sL_law_613 := dc_n3 aL_law_610
theorem aL_law_615 : dc_at cL_law 615 sL_law_615 := dc_n2 aL_law_613
theorem aL_law_616 : dc_at cL_law 616 sL_law_616 := dc_n1 aL_law_615
theorem aL_law_617 : dc_at cL_law 617 sL_law_617 := dc_n1 aL_law_616
theorem aL_law_619 : dc_at cL_law 619 sL_law_619 := dc_n2 aL_law_617
theorem aL_law_620 : dc_at cL_law 620 sL_law_620 := dc_n1 aL_law_619
theorem aL_law_621 : dc_at cL_law 621 sL_law_621 := dc_n1 aL_law_620
theorem aL_law_622 : dc_at cL_law 622 sL_law_622 := dc_n1 aL_law_621
theorem aL_law_623 : dc_at cL_law 623 sL_law_623 := dc_n1 aL_law_622
theorem aL_law_625 : dc_at cL_law 625 sL_law_625 := dc_n2 aL_law_623
theorem aL_law_626 : dc_at cL_law 626 sL_law_626 := dc_n1 aL_law_625
theorem aL_law_627 : dc_at cL_law 627 sL_law_627 := dc_n1 aL_law_626
theorem aL_law_628 : dc_at cL_law 628 sL_law_628 := dc_n1 aL_law_627
theorem aL_law_629 : dc_at cL_law 629 sL_law_629 := dc_n1 aL_law_628
theorem aL_law_631 : dc_at cL_law 631 sL_law_631 := dc_n2 aL_law_629
theorem aL_law_632 : dc_at cL_law 632 sL_law_632 := dc_n1 aL_law_631
theorem aL_law_633 : dc_at cL_law 633 sL_law_633 := dc_n1 aL_law_632
theorem aL_law_634 : dc_at cL_law 634 sL_law_634 := dc_n1 aL_law_633
theorem aL_law_635 : dc_at cL_law 635 sL_law_635 := dc_n1 aL_law_634
theorem aL_law_637 : dc_at cL_law 637 sL_law_637 := dc_n2 aL_law_635
theorem aL_law_638 : dc_at cL_law 638 sL_law_638 := dc_n1 aL_law_637
theorem aL_law_639 : dc_at cL_law 639 sL_law_639 := dc_n1 aL_law_638
theorem aL_law_640 : dc_at cL_law 640 sL_law_640 := dc_n1 aL_law_639
theorem aL_law_641 : dc_at cL_law 641 sL_law_641 := dc_n1 aL_law_640
theorem aL_law_643 : dc_at cL_law 643 sL_law_643 := dc_n2 aL_law_641
theorem aL_law_644 : dc_at cL_law 644 sL_law_644 := dc_n1 aL_law_643
theorem aL_law_645 : dc_at cL_law 645 sL_law_645 := dc_n1 aL_law_644
theorem aL_law_646 : dc_at cL_law 646 sL_law_646 := dc_n1 aL_law_645
theorem aL_law_649 : dc_at cL_law 649 sL_law_649 := dc_n3 aL_law_646
theorem aL_law_651 : dc_at cL_law 651 sL_law_651 := dc_n2 aL_law_649
theorem aL_law_654 : dc_at cL_law 654 sL_law_654 := dc_n3 aL_law_651
theorem aL_law_655 : dc_at cL_law 655 sL_law_655 := dc_n1 aL_law_654
theorem aL_law_656 : dc_at cL_law 656 sL_law_656 := dc_n1 aL_law_655
theorem aL_law_658 : dc_at cL_law 658 sL_law_658 := dc_n2 aL_law_656
theorem aL_law_659 : dc_at cL_law 659 sL_law_659 := dc_n1 aL_law_658
theorem aL_law_660 : dc_at cL_law 660 sL_law_660 := dc_n1 aL_law_659
theorem aL_law_661 : dc_at cL_law 661 sL_law_661 := dc_n1 aL_law_660
theorem aL_law_662 : dc_at cL_law 662 sL_law_662 := dc_n1 aL_law_661
theorem aL_law_665 : dc_at cL_law 665 sL_law_665 := dc_n3 aL_law_662
theorem aL_law_667 : dc_at cL_law 667 sL_law_667 := dc_n2 aL_law_665
theorem aL_law_668 : dc_at cL_law 668 sL_law_668 := dc_n1 aL_law_667
theorem aL_law_669 : dc_at cL_law 669 sL_law_669 := dc_n1 aL_law_668
theorem aL_law_671 : dc_at cL_law 671 sL_law_671 := dc_n2 aL_law_669
theorem aL_law_672 : dc_at cL_law 672 sL_law_672 := dc_n1 aL_law_671
theorem aL_law_673 : dc_at cL_law 673 sL_law_673 := dc_n1 aL_law_672
theorem aL_law_674 : dc_at cL_law 674 sL_law_674 := dc_n1 aL_law_673
theorem aL_law_677 : dc_at cL_law 677 sL_law_677 := dc_n3 aL_law_674
theorem aL_law_679 : dc_at cL_law 679 sL_law_679 := dc_n2 aL_law_677
theorem aL_law_682 : dc_at cL_law 682 sL_law_682 := dc_n3 aL_law_679
theorem aL_law_683 : dc_at cL_law 683 sL_law_683 := dc_n1 aL_law_682
theorem aL_law_684 : dc_at cL_law 684 sL_law_684 := dc_n1 aL_law_683
theorem aL_law_686 : dc_at cL_law 686 sL_law_686 := dc_n2 aL_law_684
theorem aL_law_687 : dc_at cL_law 687 sL_law_687 := dc_n1 aL_law_686
theorem aL_law_688 : dc_at cL_law 688 sL_law_688 := dc_n1 aL_law_687
theorem aL_law_689 : dc_at cL_law 689 sL_law_689 := dc_n1 aL_law_688
theorem aL_law_690 : dc_at cL_law 690 sL_law_690 := dc_n1 aL_law_689
theorem aL_law_692 : dc_at cL_law 692 sL_law_692 := dc_n2 aL_law_690
theorem aL_law_693 : dc_at cL_law 693 sL_law_693 := dc_n1 aL_law_692
theorem aL_law_694 : dc_at cL_law 694 sL_law_694 := dc_n1 aL_law_693
theorem aL_law_695 : dc_at cL_law 695 sL_law_695 := dc_n1 aL_law_694
theorem aL_law_696 : dc_at cL_law 696 sL_law_696 := dc_n1 aL_law_695
theorem aL_law_698 : dc_at cL_law 698 sL_law_698 := dc_n2 aL_law_696
theorem aL_law_699 : dc_at cL_law 699 sL_law_699 := dc_n1 aL_law_698
theorem aL_law_700 : dc_at cL_law 700 sL_law_700 := dc_n1 aL_law_699
theorem aL_law_701 : dc_at cL_law 701 sL_law_701 := dc_n1 aL_law_700
theorem aL_law_702 : dc_at cL_law 702 sL_law_702 := dc_n1 aL_law_701
theorem aL_law_704 : dc_at cL_law 704 sL_law_704 := dc_n2 aL_law_702
theorem aL_law_705 : dc_at cL_law 705 sL_law_705 := dc_n1 aL_law_704
theorem aL_law_706 : dc_at cL_law 706 sL_law_706 := dc_n1 aL_law_705
theorem aL_law_707 : dc_at cL_law 707 sL_law_707 := dc_n1 aL_law_706
theorem aL_law_708 : dc_at cL_law 708 sL_law_708 := dc_n1 aL_law_707
theorem aL_law_710 : dc_at cL_law 710 sL_law_710 := dc_n2 aL_law_708
theorem aL_law_711 : dc_at cL_law 711 sL_law_711 := dc_n1 aL_law_710
theorem aL_law_712 : dc_at cL_law 712 sL_law_712 := dc_n1 aL_law_711
theorem aL_law_713 : dc_at cL_law 713 sL_law_713 := dc_n1 aL_law_712
theorem aL_law_714 : dc_at cL_law 714 sL_law_714 := dc_n1 aL_law_713
theorem aL_law_717 : dc_at cL_law 717 sL_law_717 := dc_n3 aL_law_714
theorem aL_law_719 : dc_at cL_law 719 sL_law_719 := dc_n2 aL_law_717
theorem aL_law_720 : dc_at cL_law 720 sL_law_720 := dc_n1 aL_law_719
theorem aL_law_721 : dc_at cL_law 721 sL_law_721 := dc_n1 aL_law_720
theorem aL_law_723 : dc_at cL_law 723 sL_law_723 := dc_n2 aL_law_721
theorem aL_law_724 : dc_at cL_law 724 sL_law_724 := dc_n1 aL_law_723
theorem aL_law_725 : dc_at cL_law 725 sL_law_725 := dc_n1 aL_law_724
theorem aL_law_726 : dc_at cL_law 726 sL_law_726 := dc_n1 aL_law_725
theorem aL_law_727 : dc_at cL_law 727 sL_law_727 := dc_n1 aL_law_726
theorem aL_law_729 : dc_at cL_law 729 sL_law_729 := dc_n2 aL_law_727
theorem aL_law_730 : dc_at cL_law 730 sL_law_730 := dc_n1 aL_law_729
theorem aL_law_731 : dc_at cL_law 731 sL_law_731 := dc_n1 aL_law_730
theorem aL_law_732 : dc_at cL_law 732 sL_law_732 := dc_n1 aL_law_731
theorem aL_law_733 : dc_at cL_law 733 sL_law_733 := dc_n1 aL_law_732
theorem aL_law_735 : dc_at cL_law 735 sL_law_735 := dc_n2 aL_law_733
theorem aL_law_736 : dc_at cL_law 736 sL_law_736 := dc_n1 aL_law_735
theorem aL_law_737 : dc_at cL_law 737 sL_law_737 := dc_n1 aL_law_736
theorem aL_law_738 : dc_at cL_law 738 sL_law_738 := dc_n1 aL_law_737
theorem aL_law_739 : dc_at cL_law 739 sL_law_739 := dc_n1 aL_law_738
theorem aL_law_741 : dc_at cL_law 741 sL_law_741 := dc_n2 aL_law_739
theorem aL_law_742 : dc_at cL_law 742 sL_law_742 := dc_n1 aL_law_741
theorem aL_law_743 : dc_at cL_law 743 sL_law_743 := dc_n1 aL_law_742
theorem aL_law_744 : dc_at cL_law 744 sL_law_744 := dc_n1 aL_law_743
theorem aL_law_745 : dc_at cL_law 745 sL_law_745 := dc_n1 aL_law_744
theorem aL_law_747 : dc_at cL_law 747 sL_law_747 := dc_n2 aL_law_745
theorem aL_law_748 : dc_at cL_law 748 sL_law_748 := dc_n1 aL_law_747
theorem aL_law_749 : dc_at cL_law 749 sL_law_749 := dc_n1 aL_law_748
theorem aL_law_750 : dc_at cL_law 750 sL_law_750 := dc_n1 aL_law_749
theorem aL_law_753 : dc_at cL_law 753 sL_law_753 := dc_n3 aL_law_750
theorem aL_law_755 : dc_at cL_law 755 sL_law_755 := dc_n2 aL_law_753
theorem aL_law_758 : dc_at cL_law 758 sL_law_758 := dc_n3 aL_law_755
theorem aL_law_759 : dc_at cL_law 759 sL_law_759 := dc_n1 aL_law_758
theorem aL_law_760 : dc_at cL_law 760 sL_law_760 := dc_n1 aL_law_759
theorem aL_law_762 : dc_at cL_law 762 sL_law_762 := dc_n2 aL_law_760
theorem aL_law_763 : dc_at cL_law 763 sL_law_763 := dc_n1 aL_law_762
theorem aL_law_764 : dc_at cL_law 764 sL_law_764 := dc_n1 aL_law_763
theorem aL_law_765 : dc_at cL_law 765 sL_law_765 := dc_n1 aL_law_764
theorem aL_law_766 : dc_at cL_law 766 sL_law_766 := dc_n1 aL_law_765
theorem aL_law_768 : dc_at cL_law 768 sL_law_768 := dc_n2 aL_law_766
theorem aL_law_769 : dc_at cL_law 769 sL_law_769 := dc_n1 aL_law_768
theorem aL_law_770 : dc_at cL_law 770 sL_law_770 := dc_n1 aL_law_769
theorem aL_law_771 : dc_at cL_law 771 sL_law_771 := dc_n1 aL_law_770
theorem aL_law_772 : dc_at cL_law 772 sL_law_772 := dc_n1 aL_law_771
theorem aL_law_774 : dc_at cL_law 774 sL_law_774 := dc_n2 aL_law_772
theorem aL_law_775 : dc_at cL_law 775 sL_law_775 := dc_n1 aL_law_774
theorem aL_law_776 : dc_at cL_law 776 sL_law_776 := dc_n1 aL_law_775
theorem aL_law_777 : dc_at cL_law 777 sL_law_777 := dc_n1 aL_law_776
theorem aL_law_778 : dc_at cL_law 778 sL_law_778 := dc_n1 aL_law_777
theorem aL_law_780 : dc_at cL_law 780 sL_law_780 := dc_n2 aL_law_778
theorem aL_law_781 : dc_at cL_law 781 sL_law_781 := dc_n1 aL_law_780
theorem aL_law_782 : dc_at cL_law 782 sL_law_782 := dc_n1 aL_law_781
theorem aL_law_783 : dc_at cL_law 783 sL_law_783 := dc_n1 aL_law_782
theorem aL_law_784 : dc_at cL_law 784 sL_law_784 := dc_n1 aL_law_783
theorem aL_law_787 : dc_at cL_law 787 sL_law_787 := dc_n3 aL_law_784
theorem aL_law_789 : dc_at cL_law 789 sL_law_789 := dc_n2 aL_law_787
theorem aL_law_790 : dc_at cL_law 790 sL_law_790 := dc_n1 aL_law_789
theorem aL_law_791 : dc_at cL_law 791 sL_law_791 := dc_n1 aL_law_790
theorem aL_law_793 : dc_at cL_law 793 sL_law_793 := dc_n2 aL_law_791
theorem aL_law_794 : dc_at cL_law 794 sL_law_794 := dc_n1 aL_law_793
theorem aL_law_795 : dc_at cL_law 795 sL_law_795 := dc_n1 aL_law_794
theorem aL_law_796 : dc_at cL_law 796 sL_law_796 := dc_n1 aL_law_795
theorem aL_law_797 : dc_at cL_law 797 sL_law_797 := dc_n1 aL_law_796
theorem aL_law_799 : dc_at cL_law 799 sL_law_799 := dc_n2 aL_law_797
theorem aL_law_800 : dc_at cL_law 800 sL_law_800 := dc_n1 aL_law_799
theorem aL_law_801 : dc_at cL_law 801 sL_law_801 := dc_n1 aL_law_800
theorem aL_law_802 : dc_at cL_law 802 sL_law_802 := dc_n1 aL_law_801
theorem aL_law_803 : dc_at cL_law 803 sL_law_803 := dc_n1 aL_law_802
theorem aL_law_805 : dc_at cL_law 805 sL_law_805 := dc_n2 aL_law_803
theorem aL_law_806 : dc_at cL_law 806 sL_law_806 := dc_n1 aL_law_805
theorem aL_law_807 : dc_at cL_law 807 sL_law_807 := dc_n1 aL_law_806
theorem aL_law_808 : dc_at cL_law 808 sL_law_808 := dc_n1 aL_law_807
theorem aL_law_809 : dc_at cL_law 809 sL_law_809 := dc_n1 aL_law_808
theorem aL_law_811 : dc_at cL_law 811 sL_law_811 := dc_n2 aL_law_809
theorem aL_law_812 : dc_at cL_law 812 sL_law_812 := dc_n1 aL_law_811
theorem aL_law_813 : dc_at cL_law 813 sL_law_813 := dc_n1 aL_law_812
theorem aL_law_814 : dc_at cL_law 814 sL_law_814 := dc_n1 aL_law_813
theorem aL_law_817 : dc_at cL_law 817 sL_law_817 := dc_n3 aL_law_814
theorem aL_law_819 : dc_at cL_law 819 sL_law_819 := dc_n2 aL_law_817
theorem aL_law_822 : dc_at cL_law 822 sL_law_822 := dc_n3 aL_law_819
theorem aL_law_823 : dc_at cL_law 823 sL_law_823 := dc_n1 aL_law_822
theorem aL_law_824 : dc_at cL_law 824 sL_law_824 := dc_n1 aL_law_823
theorem aL_law_826 : dc_at cL_law 826 sL_law_826 := dc_n2 aL_law_824
theorem aL_law_827 : dc_at cL_law 827 sL_law_827 := dc_n1 aL_law_826
theorem aL_law_828 : dc_at cL_law 828 sL_law_828 := dc_n1 aL_law_827
theorem aL_law_829 : dc_at cL_law 829 sL_law_829 := dc_n1 aL_law_828
theorem aL_law_830 : dc_at cL_law 830 sL_law_830 := dc_n1 aL_law_829
theorem aL_law_832 : dc_at cL_law 832 sL_law_832 := dc_n2 aL_law_830
theorem aL_law_833 : dc_at cL_law 833 sL_law_833 := dc_n1 aL_law_832
theorem aL_law_834 : dc_at cL_law 834 sL_law_834 := dc_n1 aL_law_833
theorem aL_law_835 : dc_at cL_law 835 sL_law_835 := dc_n1 aL_law_834
theorem aL_law_836 : dc_at cL_law 836 sL_law_836 := dc_n1 aL_law_835
theorem aL_law_839 : dc_at cL_law 839 sL_law_839 := dc_n3 aL_law_836
theorem aL_law_841 : dc_at cL_law 841 sL_law_841 := dc_n2 aL_law_839
theorem aL_law_842 : dc_at cL_law 842 sL_law_842 := dc_n1 aL_law_841
theorem aL_law_843 : dc_at cL_law 843 sL_law_843 := dc_n1 aL_law_842
theorem aL_law_845 : dc_at cL_law 845 sL_law_845 := dc_n2 aL_law_843
theorem aL_law_846 : dc_at cL_law 846 sL_law_846 := dc_n1 aL_law_845
theorem aL_law_847 : dc_at cL_law 847 sL_law_847 := dc_n1 aL_law_846
theorem aL_law_848 : dc_at cL_law 848 sL_law_848 := dc_n1 aL_law_847
theorem aL_law_849 : dc_at cL_law 849 sL_law_849 := dc_n1 aL_law_848
theorem aL_law_851 : dc_at cL_law 851 sL_law_851 := dc_n2 aL_law_849
theorem aL_law_852 : dc_at cL_law 852 sL_law_852 := dc_n1 aL_law_851
theorem aL_law_853 : dc_at cL_law 853 sL_law_853 := dc_n1 aL_law_852
theorem aL_law_854 : dc_at cL_law 854 sL_law_854 := dc_n1 aL_law_853
theorem aL_law_857 : dc_at cL_law 857 sL_law_857 := dc_n3 aL_law_854
theorem aL_law_859 : dc_at cL_law 859 sL_law_859 := dc_n2 aL_law_857
theorem aL_law_862 : dc_at cL_law 862 sL_law_862 := dc_n3 aL_law_859
theorem aL_law_863 : dc_at cL_law 863 sL_law_863 := dc_n1 aL_law_862
theorem aL_law_864 : dc_at cL_law 864 sL_law_864 := dc_n1 aL_law_863
theorem aL_law_866 : dc_at cL_law 866 sL_law_866 := dc_n2 aL_law_864
theorem aL_law_867 : dc_at cL_law 867 sL_law_867 := dc_n1 aL_law_866
theorem aL_law_868 : dc_at cL_law 868 sL_law_868 := dc_n1 aL_law_867
theorem aL_law_869 : dc_at cL_law 869 sL_law_869 := dc_n1 aL_law_868
theorem aL_law_870 : dc_at cL_law 870 sL_law_870 := dc_n1 aL_law_869
theorem aL_law_872 : dc_at cL_law 872 sL_law_872 := dc_n2 aL_law_870
theorem aL_law_873 : dc_at cL_law 873 sL_law_873 := dc_n1 aL_law_872
theorem aL_law_874 : dc_at cL_law 874 sL_law_874 := dc_n1 aL_law_873
theorem aL_law_875 : dc_at cL_law 875 sL_law_875 := dc_n1 aL_law_874
theorem aL_law_876 : dc_at cL_law 876 sL_law_876 := dc_n1 aL_law_875
theorem aL_law_878 : dc_at cL_law 878 sL_law_878 := dc_n2 aL_law_876
theorem aL_law_879 : dc_at cL_law 879 sL_law_879 := dc_n1 aL_law_878
theorem aL_law_880 : dc_at cL_law 880 sL_law_880 := dc_n1 aL_law_879
theorem aL_law_881 : dc_at cL_law 881 sL_law_881 := dc_n1 aL_law_880
theorem aL_law_882 : dc_at cL_law 882 sL_law_882 := dc_n1 aL_law_881
theorem aL_law_885 : dc_at cL_law 885 sL_law_885 := dc_n3 aL_law_882
theorem aL_law_887 : dc_at cL_law 887 sL_law_887 := dc_n2 aL_law_885
theorem aL_law_888 : dc_at cL_law 888 sL_law_888 := dc_n1 aL_law_887
theorem aL_law_889 : dc_at cL_law 889 sL_law_889 := dc_n1 aL_law_888
theorem aL_law_891 : dc_at cL_law 891 sL_law_891 := dc_n2 aL_law_889
theorem aL_law_892 : dc_at cL_law 892 sL_law_892 := dc_n1 aL_law_891
theorem aL_law_893 : dc_at cL_law 893 sL_law_893 := dc_n1 aL_law_892
theorem aL_law_894 : dc_at cL_law 894 sL_law_894 := dc_n1 aL_law_893
theorem aL_law_895 : dc_at cL_law 895 sL_law_895 := dc_n1 aL_law_894
theorem aL_law_897 : dc_at cL_law 897 sL_law_897 := dc_n2 aL_law_895
theorem aL_law_898 : dc_at cL_law 898 sL_law_898 := dc_n1 aL_law_897
theorem aL_law_899 : dc_at cL_law 899 sL_law_899 := dc_n1 aL_law_898
theorem aL_law_900 : dc_at cL_law 900 sL_law_900 := dc_n1 aL_law_899
theorem aL_law_901 : dc_at cL_law 901 sL_law_901 := dc_n1 aL_law_900
theorem aL_law_903 : dc_at cL_law 903 sL_law_903 := dc_n2 aL_law_901
theorem aL_law_904 : dc_at cL_law 904 sL_law_904 := dc_n1 aL_law_903
theorem aL_law_905 : dc_at cL_law 905 sL_law_905 := dc_n1 aL_law_904
theorem aL_law_906 : dc_at cL_law 906 sL_law_906 := dc_n1 aL_law_905
theorem aL_law_909 : dc_at cL_law 909 sL_law_909 := dc_n3 aL_law_906
theorem aL_law_911 : dc_at cL_law 911 sL_law_911 := dc_n2 aL_law_909
theorem aL_law_914 : dc_at cL_law 914 sL_law_914 := dc_n3 aL_law_911
theorem aL_law_915 : dc_at cL_law 915 sL_law_915 := dc_n1 aL_law_914
theorem aL_law_916 : dc_at cL_law 916 sL_law_916 := dc_n1 aL_law_915
theorem aL_law_918 : dc_at cL_law 918 sL_law_918 := dc_n2 aL_law_916
theorem aL_law_919 : dc_at cL_law 919 sL_law_919 := dc_n1 aL_law_918
theorem aL_law_920 : dc_at cL_law 920 sL_law_920 := dc_n1 aL_law_919
theorem aL_law_921 : dc_at cL_law 921 sL_law_921 := dc_n1 aL_law_920
theorem aL_law_922 : dc_at cL_law 922 sL_law_922 := dc_n1 aL_law_921
theorem aL_law_924 : dc_at cL_law 924 sL_law_924 := dc_n2 aL_law_922
theorem aL_law_925 : dc_at cL_law 925 sL_law_925 := dc_n1 aL_law_924
theorem aL_law_926 : dc_at cL_law 926 sL_law_926 := dc_n1 aL_law_925
theorem aL_law_927 : dc_at cL_law 927 sL_law_927 := dc_n1 aL_law_926
theorem aL_law_928 : dc_at cL_law 928 sL_law_928 := dc_n1 aL_law_927
theorem aL_law_931 : dc_at cL_law 931 sL_law_931 := dc_n3 aL_law_928
theorem aL_law_933 : dc_at cL_law 933 sL_law_933 := dc_n2 aL_law_931
theorem aL_law_934 : dc_at cL_law 934 sL_law_934 := dc_n1 aL_law_933
theorem aL_law_935 : dc_at cL_law 935 sL_law_935 := dc_n1 aL_law_934
theorem aL_law_937 : dc_at cL_law 937 sL_law_937 := dc_n2 aL_law_935
theorem aL_law_938 : dc_at cL_law 938 sL_law_938 := dc_n1 aL_law_937
theorem aL_law_939 : dc_at cL_law 939 sL_law_939 := dc_n1 aL_law_938
theorem aL_law_940 : dc_at cL_law 940 sL_law_940 := dc_n1 aL_law_939
theorem aL_law_941 : dc_at cL_law 941 sL_law_941 := dc_n1 aL_law_940
theorem aL_law_943 : dc_at cL_law 943 sL_law_943 := dc_n2 aL_law_941
theorem aL_law_944 : dc_at cL_law 944 sL_law_944 := dc_n1 aL_law_943
theorem aL_law_945 : dc_at cL_law 945 sL_law_945 := dc_n1 aL_law_944
theorem aL_law_946 : dc_at cL_law 946 sL_law_946 := dc_n1 aL_law_945
theorem aL_law_949 : dc_at cL_law 949 sL_law_949 := dc_n3 aL_law_946
theorem aL_law_951 : dc_at cL_law 951 sL_law_951 := dc_n2 aL_law_949
theorem aL_law_954 : dc_at cL_law 954 sL_law_954 := dc_n3 aL_law_951
theorem aL_law_955 : dc_at cL_law 955 sL_law_955 := dc_n1 aL_law_954
theorem aL_law_956 : dc_at cL_law 956 sL_law_956 := dc_n1 aL_law_955
theorem aL_law_958 : dc_at cL_law 958 sL_law_958 := dc_n2 aL_law_956
theorem aL_law_959 : dc_at cL_law 959 sL_law_959 := dc_n1 aL_law_958
theorem aL_law_960 : dc_at cL_law 960 sL_law_960 := dc_n1 aL_law_959
theorem aL_law_961 : dc_at cL_law 961 sL_law_961 := dc_n1 aL_law_960
theorem aL_law_962 : dc_at cL_law 962 sL_law_962 := dc_n1 aL_law_961
theorem aL_law_964 : dc_at cL_law 964 sL_law_964 := dc_n2 aL_law_962
theorem aL_law_965 : dc_at cL_law 965 sL_law_965 := dc_n1 aL_law_964
theorem aL_law_966 : dc_at cL_law 966 sL_law_966 := dc_n1 aL_law_965
theorem aL_law_967 : dc_at cL_law 967 sL_law_967 := dc_n1 aL_law_966
theorem aL_law_968 : dc_at cL_law 968 sL_law_968 := dc_n1 aL_law_967
theorem aL_law_970 : dc_at cL_law 970 sL_law_970 := dc_n2 aL_law_968
theorem aL_law_971 : dc_at cL_law 971 sL_law_971 := dc_n1 aL_law_970
theorem aL_law_972 : dc_at cL_law 972 sL_law_972 := dc_n1 aL_law_971
theorem aL_law_973 : dc_at cL_law 973 sL_law_973 := dc_n1 aL_law_972
theorem aL_law_974 : dc_at cL_law 974 sL_law_974 := dc_n1 aL_law_973
theorem aL_law_977 : dc_at cL_law 977 sL_law_977 := dc_n3 aL_law_974
theorem aL_law_979 : dc_at cL_law 979 sL_law_979 := dc_n2 aL_law_977
theorem aL_law_980 : dc_at cL_law 980 sL_law_980 := dc_n1 aL_law_979
theorem aL_law_981 : dc_at cL_law 981 sL_law_981 := dc_n1 aL_law_980
theorem aL_law_983 : dc_at cL_law 983 sL_law_983 := dc_n2 aL_law_981
theorem aL_law_984 : dc_at cL_law 984 sL_law_984 := dc_n1 aL_law_983
theorem aL_law_985 : dc_at cL_law 985 sL_law_985 := dc_n1 aL_law_984
theorem aL_law_986 : dc_at cL_law 986 sL_law_986 := dc_n1 aL_law_985
theorem aL_law_987 : dc_at cL_law 987 sL_law_987 := dc_n1 aL_law_986
theorem aL_law_989 : dc_at cL_law 989 sL_law_989 := dc_n2 aL_law_987
theorem aL_law_990 : dc_at cL_law 990 sL_law_990 := dc_n1 aL_law_989
theorem aL_law_991 : dc_at cL_law 991 sL_law_991 := dc_n1 aL_law_990
theorem aL_law_992 : dc_at cL_law 992 sL_law_992 := dc_n1 aL_law_991
theorem aL_law_993 : dc_at cL_law 993 sL_law_993 := dc_n1 aL_law_992
theorem aL_law_995 : dc_at cL_law 995 sL_law_995 := dc_n2 aL_law_993
theorem aL_law_996 : dc_at cL_law 996 sL_law_996 := dc_n1 aL_law_995
theorem aL_law_997 : dc_at cL_law 997 sL_law_997 := dc_n1 aL_law_996
theorem aL_law_998 : dc_at cL_law 998 sL_law_998 := dc_n1 aL_law_997
theorem aL_law_1001 : dc_at cL_law 1001 sL_law_1001 := dc_n3 aL_law_998
theorem aL_law_1003 : dc_at cL_law 1003 sL_law_1003 := dc_n2 aL_law_1001
theorem aL_law_1006 : dc_at cL_law 1006 sL_law_1006 := dc_n3 aL_law_1003
theorem aL_law_1007 : dc_at cL_law 1007 sL_law_1007 := dc_n1 aL_law_1006
theorem aL_law_1008 : dc_at cL_law 1008 sL_law_1008 := dc_n1 aL_law_1007
theorem aL_law_1010 : dc_at cL_law 1010 sL_law_1010 := dc_n2 aL_law_1008
theorem aL_law_1011 : dc_at cL_law 1011 sL_law_1011 := dc_n1 aL_law_1010
theorem aL_law_1012 : dc_at cL_law 1012 sL_law_1012 := dc_n1 aL_law_1011
theorem aL_law_1013 : dc_at cL_law 1013 sL_law_1013 := dc_n1 aL_law_1012
theorem aL_law_1014 : dc_at cL_law 1014 sL_law_1014 := dc_n1 aL_law_1013
theorem aL_law_1016 : dc_at cL_law 1016 sL_law_1016 := dc_n2 aL_law_1014
theorem aL_law_1017 : dc_at cL_law 1017 sL_law_1017 := dc_n1 aL_law_1016
theorem aL_law_1018 : dc_at cL_law 1018 sL_law_1018 := dc_n1 aL_law_1017
theorem aL_law_1019 : dc_at cL_law 1019 sL_law_1019 := dc_n1 aL_law_1018
theorem aL_law_1020 : dc_at cL_law 1020 sL_law_1020 := dc_n1 aL_law_1019
theorem aL_law_1022 : dc_at cL_law 1022 sL_law_1022 := dc_n2 aL_law_1020
theorem aL_law_1023 : dc_at cL_law 1023 sL_law_1023 := dc_n1 aL_law_1022
theorem aL_law_1024 : dc_at cL_law 1024 sL_law_1024 := dc_n1 aL_law_1023
theorem aL_law_1025 : dc_at cL_law 1025 sL_law_1025 := dc_n1 aL_law_1024
theorem aL_law_1026 : dc_at cL_law 1026 sL_law_1026 := dc_n1 aL_law_1025
theorem aL_law_1028 : dc_at cL_law 1028 sL_law_1028 := dc_n2 aL_law_1026
theorem aL_law_1029 : dc_at cL_law 1029 sL_law_1029 := dc_n1 aL_law_1028
theorem aL_law_1030 : dc_at cL_law 1030 sL_law_1030 := dc_n1 aL_law_1029
theorem aL_law_1031 : dc_at cL_law 1031 sL_law_1031 := dc_n1 aL_law_1030
theorem aL_law_1032 : dc_at cL_law 1032 sL_law_1032 := dc_n1 aL_law_1031
theorem aL_law_1035 : dc_at cL_law 1035 sL_law_1035 := dc_n3 aL_law_1032
theorem aL_law_1037 : dc_at cL_law 1037 sL_law_1037 := dc_n2 aL_law_1035
theorem aL_law_1038 : dc_at cL_law 1038 sL_law_1038 := dc_n1 aL_law_1037
theorem aL_law_1039 : dc_at cL_law 1039 sL_law_1039 := dc_n1 aL_law_1038
theorem aL_law_1041 : dc_at cL_law 1041 sL_law_1041 := dc_n2 aL_law_1039
theorem aL_law_1042 : dc_at cL_law 1042 sL_law_1042 := dc_n1 aL_law_1041
theorem aL_law_1043 : dc_at cL_law 1043 sL_law_1043 := dc_n1 aL_law_1042
theorem aL_law_1044 : dc_at cL_law 1044 sL_law_1044 := dc_n1 aL_law_1043
theorem aL_law_1045 : dc_at cL_law 1045 sL_law_1045 := dc_n1 aL_law_1044
theorem aL_law_1047 : dc_at cL_law 1047 sL_law_1047 := dc_n2 aL_law_1045
theorem aL_law_1048 : dc_at cL_law 1048 sL_law_1048 := dc_n1 aL_law_1047
theorem aL_law_1049 : dc_at cL_law 1049 sL_law_1049 := dc_n1 aL_law_1048
theorem aL_law_1050 : dc_at cL_law 1050 sL_law_1050 := dc_n1 aL_law_1049
theorem aL_law_1051 : dc_at cL_law 1051 sL_law_1051 := dc_n1 aL_law_1050
theorem aL_law_1053 : dc_at cL_law 1053 sL_law_1053 := dc_n2 aL_law_1051
theorem aL_law_1054 : dc_at cL_law 1054 sL_law_1054 := dc_n1 aL_law_1053
theorem aL_law_1055 : dc_at cL_law 1055 sL_law_1055 := dc_n1 aL_law_1054
theorem aL_law_1056 : dc_at cL_law 1056 sL_law_1056 := dc_n1 aL_law_1055
theorem aL_law_1057 : dc_at cL_law 1057 sL_law_1057 := dc_n1 aL_law_1056
theorem aL_law_1059 : dc_at cL_law 1059 sL_law_1059 := dc_n2 aL_law_1057
theorem aL_law_1060 : dc_at cL_law 1060 sL_law_1060 := dc_n1 aL_law_1059
theorem aL_law_1061 : dc_at cL_law 1061 sL_law_1061 := dc_n1 aL_law_1060
theorem aL_law_1062 : dc_at cL_law 1062 sL_law_1062 := dc_n1 aL_law_1061
theorem aL_law_1065 : dc_at cL_law 1065 sL_law_1065 := dc_n3 aL_law_1062
theorem aL_law_1067 : dc_at cL_law 1067 sL_law_1067 := dc_n2 aL_law_1065
theorem aL_law_1070 : dc_at cL_law 1070 sL_law_1070 := dc_n3 aL_law_1067
theorem aL_law_1071 : dc_at cL_law 1071 sL_law_1071 := dc_n1 aL_law_1070
theorem aL_law_1072 : dc_at cL_law 1072 sL_law_1072 := dc_n1 aL_law_1071
theorem aL_law_1074 : dc_at cL_law 1074 sL_law_1074 := dc_n2 aL_law_1072
theorem aL_law_1075 : dc_at cL_law 1075 sL_law_1075 := dc_n1 aL_law_1074
theorem aL_law_1076 : dc_at cL_law 1076 sL_law_1076 := dc_n1 aL_law_1075
theorem aL_law_1077 : dc_at cL_law 1077 sL_law_1077 := dc_n1 aL_law_1076
theorem aL_law_1078 : dc_at cL_law 1078 sL_law_1078 := dc_n1 aL_law_1077
theorem aL_law_1080 : dc_at cL_law 1080 sL_law_1080 := dc_n2 aL_law_1078
theorem aL_law_1081 : dc_at cL_law 1081 sL_law_1081 := dc_n1 aL_law_1080
theorem aL_law_1082 : dc_at cL_law 1082 sL_law_1082 := dc_n1 aL_law_1081
theorem aL_law_1083 : dc_at cL_law 1083 sL_law_1083 := dc_n1 aL_law_1082
theorem aL_law_1084 : dc_at cL_law 1084 sL_law_1084 := dc_n1 aL_law_1083
theorem aL_law_1086 : dc_at cL_law 1086 sL_law_1086 := dc_n2 aL_law_1084
theorem aL_law_1087 : dc_at cL_law 1087 sL_law_1087 := dc_n1 aL_law_1086
theorem aL_law_1088 : dc_at cL_law 1088 sL_law_1088 := dc_n1 aL_law_1087
theorem aL_law_1089 : dc_at cL_law 1089 sL_law_1089 := dc_n1 aL_law_1088
theorem aL_law_1090 : dc_at cL_law 1090 sL_law_1090 := dc_n1 aL_law_1089
theorem aL_law_1092 : dc_at cL_law 1092 sL_law_1092 := dc_n2 aL_law_1090
theorem aL_law_1093 : dc_at cL_law 1093 sL_law_1093 := dc_n1 aL_law_1092
theorem aL_law_1094 : dc_at cL_law 1094 sL_law_1094 := dc_n1 aL_law_1093
theorem aL_law_1095 : dc_at cL_law 1095 sL_law_1095 := dc_n1 aL_law_1094
theorem aL_law_1096 : dc_at cL_law 1096 sL_law_1096 := dc_n1 aL_law_1095
theorem aL_law_1099 : dc_at cL_law 1099 sL_law_1099 := dc_n3 aL_law_1096
theorem aL_law_1101 : dc_at cL_law 1101 sL_law_1101 := dc_n2 aL_law_1099
theorem aL_law_1102 : dc_at cL_law 1102 sL_law_1102 := dc_n1 aL_law_1101
theorem aL_law_1103 : dc_at cL_law 1103 sL_law_1103 := dc_n1 aL_law_1102
theorem aL_law_1105 : dc_at cL_law 1105 sL_law_1105 := dc_n2 aL_law_1103
theorem aL_law_1106 : dc_at cL_law 1106 sL_law_1106 := dc_n1 aL_law_1105
theorem aL_law_1107 : dc_at cL_law 1107 sL_law_1107 := dc_n1 aL_law_1106
theorem aL_law_1108 : dc_at cL_law 1108 sL_law_1108 := dc_n1 aL_law_1107
theorem aL_law_1109 : dc_at cL_law 1109 sL_law_1109 := dc_n1 aL_law_1108
theorem aL_law_1111 : dc_at cL_law 1111 sL_law_1111 := dc_n2 aL_law_1109
theorem aL_law_1112 : dc_at cL_law 1112 sL_law_1112 := dc_n1 aL_law_1111
theorem aL_law_1113 : dc_at cL_law 1113 sL_law_1113 := dc_n1 aL_law_1112
theorem aL_law_1114 : dc_at cL_law 1114 sL_law_1114 := dc_n1 aL_law_1113
theorem aL_law_1115 : dc_at cL_law 1115 sL_law_1115 := dc_n1 aL_law_1114
theorem aL_law_1117 : dc_at cL_law 1117 sL_law_1117 := dc_n2 aL_law_1115
theorem aL_law_1118 : dc_at cL_law 1118 sL_law_1118 := dc_n1 aL_law_1117
theorem aL_law_1119 : dc_at cL_law 1119 sL_law_1119 := dc_n1 aL_law_1118
theorem aL_law_1120 : dc_at cL_law 1120 sL_law_1120 := dc_n1 aL_law_1119
theorem aL_law_1121 : dc_at cL_law 1121 sL_law_1121 := dc_n1 aL_law_1120
theorem aL_law_1123 : dc_at cL_law 1123 sL_law_1123 := dc_n2 aL_law_1121
theorem aL_law_1124 : dc_at cL_law 1124 sL_law_1124 := dc_n1 aL_law_1123
theorem aL_law_1125 : dc_at cL_law 1125 sL_law_1125 := dc_n1 aL_law_1124
theorem aL_law_1126 : dc_at cL_law 1126 sL_law_1126 := dc_n1 aL_law_1125
theorem aL_law_1129 : dc_at cL_law 1129 sL_law_1129 := dc_n3 aL_law_1126
theorem aL_law_1131 : dc_at cL_law 1131 sL_law_1131 := dc_n2 aL_law_1129
theorem aL_law_1134 : dc_at cL_law 1134 sL_law_1134 := dc_n3 aL_law_1131
theorem aL_law_1135 : dc_at cL_law 1135 sL_law_1135 := dc_n1 aL_law_1134
theorem aL_law_1136 : dc_at cL_law 1136 sL_law_1136 := dc_n1 aL_law_1135
theorem aL_law_1138 : dc_at cL_law 1138 sL_law_1138 := dc_n2 aL_law_1136
theorem aL_law_1139 : dc_at cL_law 1139 sL_law_1139 := dc_n1 aL_law_1138
theorem aL_law_1140 : dc_at cL_law 1140 sL_law_1140 := dc_n1 aL_law_1139
theorem aL_law_1141 : dc_at cL_law 1141 sL_law_1141 := dc_n1 aL_law_1140
theorem aL_law_1142 : dc_at cL_law 1142 sL_law_1142 := dc_n1 aL_law_1141
theorem aL_law_1144 : dc_at cL_law 1144 sL_law_1144 := dc_n2 aL_law_1142
theorem aL_law_1145 : dc_at cL_law 1145 sL_law_1145 := dc_n1 aL_law_1144
theorem aL_law_1146 : dc_at cL_law 1146 sL_law_1146 := dc_n1 aL_law_1145
theorem aL_law_1147 : dc_at cL_law 1147 sL_law_1147 := dc_n1 aL_law_1146
theorem aL_law_1148 : dc_at cL_law 1148 sL_law_1148 := dc_n1 aL_law_1147
theorem aL_law_1150 : dc_at cL_law 1150 sL_law_1150 := dc_n2 aL_law_1148
theorem aL_law_1151 : dc_at cL_law 1151 sL_law_1151 := dc_n1 aL_law_1150
theorem aL_law_1152 : dc_at cL_law 1152 sL_law_1152 := dc_n1 aL_law_1151
theorem aL_law_1153 : dc_at cL_law 1153 sL_law_1153 := dc_n1 aL_law_1152
theorem aL_law_1154 : dc_at cL_law 1154 sL_law_1154 := dc_n1 aL_law_1153
theorem aL_law_1157 : dc_at cL_law 1157 sL_law_1157 := dc_n3 aL_law_1154
theorem aL_law_1159 : dc_at cL_law 1159 sL_law_1159 := dc_n2 aL_law_1157
theorem aL_law_1160 : dc_at cL_law 1160 sL_law_1160 := dc_n1 aL_law_1159
theorem aL_law_1161 : dc_at cL_law 1161 sL_law_1161 := dc_n1 aL_law_1160
theorem aL_law_1163 : dc_at cL_law 1163 sL_law_1163 := dc_n2 aL_law_1161
theorem aL_law_1164 : dc_at cL_law 1164 sL_law_1164 := dc_n1 aL_law_1163
theorem aL_law_1165 : dc_at cL_law 1165 sL_law_1165 := dc_n1 aL_law_1164
theorem aL_law_1166 : dc_at cL_law 1166 sL_law_1166 := dc_n1 aL_law_1165
theorem aL_law_1167 : dc_at cL_law 1167 sL_law_1167 := dc_n1 aL_law_1166
theorem aL_law_1169 : dc_at cL_law 1169 sL_law_1169 := dc_n2 aL_law_1167
theorem aL_law_1170 : dc_at cL_law 1170 sL_law_1170 := dc_n1 aL_law_1169
theorem aL_law_1171 : dc_at cL_law 1171 sL_law_1171 := dc_n1 aL_law_1170
theorem aL_law_1172 : dc_at cL_law 1172 sL_law_1172 := dc_n1 aL_law_1171
theorem aL_law_1173 : dc_at cL_law 1173 sL_law_1173 := dc_n1 aL_law_1172
theorem aL_law_1175 : dc_at cL_law 1175 sL_law_1175 := dc_n2 aL_law_1173
theorem aL_law_1176 : dc_at cL_law 1176 sL_law_1176 := dc_n1 aL_law_1175
theorem aL_law_1177 : dc_at cL_law 1177 sL_law_1177 := dc_n1 aL_law_1176
theorem aL_law_1178 : dc_at cL_law 1178 sL_law_1178 := dc_n1 aL_law_1177
theorem aL_law_1181 : dc_at cL_law 1181 sL_law_1181 := dc_n3 aL_law_1178
theorem aL_law_1183 : dc_at cL_law 1183 sL_law_1183 := dc_n2 aL_law_1181
theorem aL_law_1186 : dc_at cL_law 1186 sL_law_1186 := dc_n3 aL_law_1183
theorem aL_law_1187 : dc_at cL_law 1187 sL_law_1187 := dc_n1 aL_law_1186
theorem aL_law_1188 : dc_at cL_law 1188 sL_law_1188 := dc_n1 aL_law_1187
theorem aL_law_1190 : dc_at cL_law 1190 sL_law_1190 := dc_n2 aL_law_1188
theorem aL_law_1191 : dc_at cL_law 1191 sL_law_1191 := dc_n1 aL_law_1190
theorem aL_law_1192 : dc_at cL_law 1192 sL_law_1192 := dc_n1 aL_law_1191
theorem aL_law_1193 : dc_at cL_law 1193 sL_law_1193 := dc_n1 aL_law_1192
theorem aL_law_1194 : dc_at cL_law 1194 sL_law_1194 := dc_n1 aL_law_1193
theorem aL_law_1196 : dc_at cL_law 1196 sL_law_1196 := dc_n2 aL_law_1194
theorem aL_law_1197 : dc_at cL_law 1197 sL_law_1197 := dc_n1 aL_law_1196
theorem aL_law_1198 : dc_at cL_law 1198 sL_law_1198 := dc_n1 aL_law_1197
theorem aL_law_1199 : dc_at cL_law 1199 sL_law_1199 := dc_n1 aL_law_1198
theorem aL_law_1200 : dc_at cL_law 1200 sL_law_1200 := dc_n1 aL_law_1199
theorem aL_law_1203 : dc_at cL_law 1203 sL_law_1203 := dc_n3 aL_law_1200
theorem aL_law_1205 : dc_at cL_law 1205 sL_law_1205 := dc_n2 aL_law_1203
theorem aL_law_1206 : dc_at cL_law 1206 sL_law_1206 := dc_n1 aL_law_1205
theorem aL_law_1207 : dc_at cL_law 1207 sL_law_1207 := dc_n1 aL_law_1206
theorem aL_law_1209 : dc_at cL_law 1209 sL_law_1209 := dc_n2 aL_law_1207
theorem aL_law_1210 : dc_at cL_law 1210 sL_law_1210 := dc_n1 aL_law_1209
theorem aL_law_1211 : dc_at cL_law 1211 sL_law_1211 := dc_n1 aL_law_1210
theorem aL_law_1212 : dc_at cL_law 1212 sL_law_1212 := dc_n1 aL_law_1211
theorem aL_law_1213 : dc_at cL_law 1213 sL_law_1213 := dc_n1 aL_law_1212
theorem aL_law_1215 : dc_at cL_law 1215 sL_law_1215 := dc_n2 aL_law_1213
theorem aL_law_1216 : dc_at cL_law 1216 sL_law_1216 := dc_n1 aL_law_1215
theorem aL_law_1217 : dc_at cL_law 1217 sL_law_1217 := dc_n1 aL_law_1216
theorem aL_law_1218 : dc_at cL_law 1218 sL_law_1218 := dc_n1 aL_law_1217
theorem aL_law_1221 : dc_at cL_law 1221 sL_law_1221 := dc_n3 aL_law_1218
theorem aL_law_1223 : dc_at cL_law 1223 sL_law_1223 := dc_n2 aL_law_1221
theorem aL_law_1226 : dc_at cL_law 1226 sL_law_1226 := dc_n3 aL_law_1223
theorem aL_law_1227 : dc_at cL_law 1227 sL_law_1227 := dc_n1 aL_law_1226
theorem aL_law_1228 : dc_at cL_law 1228 sL_law_1228 := dc_n1 aL_law_1227
theorem aL_law_1230 : dc_at cL_law 1230 sL_law_1230 := dc_n2 aL_law_1228
theorem aL_law_1231 : dc_at cL_law 1231 sL_law_1231 := dc_n1 aL_law_1230
theorem aL_law_1232 : dc_at cL_law 1232 sL_law_1232 := dc_n1 aL_law_1231
theorem aL_law_1233 : dc_at cL_law 1233 sL_law_1233 := dc_n1 aL_law_1232
theorem aL_law_1234 : dc_at cL_law 1234 sL_law_1234 := dc_n1 aL_law_1233
theorem aL_law_1236 : dc_at cL_law 1236 sL_law_1236 := dc_n2 aL_law_1234
theorem aL_law_1237 : dc_at cL_law 1237 sL_law_1237 := dc_n1 aL_law_1236
theorem aL_law_1238 : dc_at cL_law 1238 sL_law_1238 := dc_n1 aL_law_1237
theorem aL_law_1239 : dc_at cL_law 1239 sL_law_1239 := dc_n1 aL_law_1238
theorem aL_law_1240 : dc_at cL_law 1240 sL_law_1240 := dc_n1 aL_law_1239
theorem aL_law_1242 : dc_at cL_law 1242 sL_law_1242 := dc_n2 aL_law_1240
theorem aL_law_1243 : dc_at cL_law 1243 sL_law_1243 := dc_n1 aL_law_1242
theorem aL_law_1244 : dc_at cL_law 1244 sL_law_1244 := dc_n1 aL_law_1243
theorem aL_law_1245 : dc_at cL_law 1245 sL_law_1245 := dc_n1 aL_law_1244
theorem aL_law_1246 : dc_at cL_law 1246 sL_law_1246 := dc_n1 aL_law_1245
theorem aL_law_1248 : dc_at cL_law 1248 sL_law_1248 := dc_n2 aL_law_1246
theorem aL_law_1249 : dc_at cL_law 1249 sL_law_1249 := dc_n1 aL_law_1248
theorem aL_law_1250 : dc_at cL_law 1250 sL_law_1250 := dc_n1 aL_law_1249
theorem aL_law_1251 : dc_at cL_law 1251 sL_law_1251 := dc_n1 aL_law_1250
theorem aL_law_1254 : dc_at cL_law 1254 sL_law_1254 := dc_n3 aL_law_1251
theorem aL_law_1256 : dc_at cL_law 1256 sL_law_1256 := dc_n2 aL_law_1254
theorem aL_law_1257 : dc_at cL_law 1257 sL_law_1257 := dc_n1 aL_law_1256
theorem aL_law_1258 : dc_at cL_law 1258 sL_law_1258 := dc_n1 aL_law_1257
theorem aL_law_1260 : dc_at cL_law 1260 sL_law_1260 := dc_n2 aL_law_1258
theorem aL_law_1261 : dc_at cL_law 1261 sL_law_1261 := dc_n1 aL_law_1260
theorem aL_law_1262 : dc_at cL_law 1262 sL_law_1262 := dc_n1 aL_law_1261
theorem aL_law_1263 : dc_at cL_law 1263 sL_law_1263 := dc_n1 aL_law_1262
theorem aL_law_1264 : dc_at cL_law 1264 sL_law_1264 := dc_n1 aL_law_1263
theorem aL_law_1266 : dc_at cL_law 1266 sL_law_1266 := dc_n2 aL_law_1264
theorem aL_law_1267 : dc_at cL_law 1267 sL_law_1267 := dc_n1 aL_law_1266
theorem aL_law_1268 : dc_at cL_law 1268 sL_law_1268 := dc_n1 aL_law_1267
theorem aL_law_1269 : dc_at cL_law 1269 sL_law_1269 := dc_n1 aL_law_1268
theorem aL_law_1270 : dc_at cL_law 1270 sL_law_1270 := dc_n1 aL_law_1269
theorem aL_law_1272 : dc_at cL_law 1272 sL_law_1272 := dc_n2 aL_law_1270
theorem aL_law_1273 : dc_at cL_law 1273 sL_law_1273 := dc_n1 aL_law_1272
theorem aL_law_1274 : dc_at cL_law 1274 sL_law_1274 := dc_n1 aL_law_1273
theorem aL_law_1275 : dc_at cL_law 1275 sL_law_1275 := dc_n1 aL_law_1274
theorem aL_law_1276 : dc_at cL_law 1276 sL_law_1276 := dc_n1 aL_law_1275
theorem aL_law_1278 : dc_at cL_law 1278 sL_law_1278 := dc_n2 aL_law_1276
theorem aL_law_1279 : dc_at cL_law 1279 sL_law_1279 := dc_n1 aL_law_1278
theorem aL_law_1280 : dc_at cL_law 1280 sL_law_1280 := dc_n1 aL_law_1279
theorem aL_law_1281 : dc_at cL_law 1281 sL_law_1281 := dc_n1 aL_law_1280
theorem aL_law_1284 : dc_at cL_law 1284 sL_law_1284 := dc_n3 aL_law_1281
theorem aL_law_1287 : dc_at cL_law 1287 sL_law_1287 := dc_n3 aL_law_1284
theorem aL_law_1288 : dc_at cL_law 1288 sL_law_1288 := dc_n1 aL_law_1287
theorem aL_law_1289 : dc_at cL_law 1289 sL_law_1289 := dc_n1 aL_law_1288
theorem aL_law_1291 : dc_at cL_law 1291 sL_law_1291 := dc_n2 aL_law_1289
theorem aL_law_1292 : dc_at cL_law 1292 sL_law_1292 := dc_n1 aL_law_1291
theorem aL_law_1293 : dc_at cL_law 1293 sL_law_1293 := dc_n1 aL_law_1292
theorem aL_law_1294 : dc_at cL_law 1294 sL_law_1294 := dc_n1 aL_law_1293
theorem aL_law_1295 : dc_at cL_law 1295 sL_law_1295 := dc_n1 aL_law_1294
theorem aL_law_1298 : dc_at cL_law 1298 sL_law_1298 := dc_n3 aL_law_1295
theorem aL_law_1300 : dc_at cL_law 1300 sL_law_1300 := dc_n2 aL_law_1298
theorem aL_law_1301 : dc_at cL_law 1301 sL_law_1301 := dc_n1 aL_law_1300
theorem aL_law_1302 : dc_at cL_law 1302 sL_law_1302 := dc_n1 aL_law_1301
theorem aL_law_1304 : dc_at cL_law 1304 sL_law_1304 := dc_n2 aL_law_1302
theorem aL_law_1305 : dc_at cL_law 1305 sL_law_1305 := dc_n1 aL_law_1304
theorem aL_law_1306 : dc_at cL_law 1306 sL_law_1306 := dc_n1 aL_law_1305
theorem aL_law_1307 : dc_at cL_law 1307 sL_law_1307 := dc_n1 aL_law_1306
theorem aL_law_1310 : dc_at cL_law 1310 sL_law_1310 := dc_n3 aL_law_1307
theorem aL_law_1312 : dc_at cL_law 1312 sL_law_1312 := dc_n2 aL_law_1310
theorem aL_law_1315 : dc_at cL_law 1315 sL_law_1315 := dc_n3 aL_law_1312
theorem aL_law_1316 : dc_at cL_law 1316 sL_law_1316 := dc_n1 aL_law_1315
theorem aL_law_1317 : dc_at cL_law 1317 sL_law_1317 := dc_n1 aL_law_1316
theorem aL_law_1319 : dc_at cL_law 1319 sL_law_1319 := dc_n2 aL_law_1317
theorem aL_law_1320 : dc_at cL_law 1320 sL_law_1320 := dc_n1 aL_law_1319
theorem aL_law_1321 : dc_at cL_law 1321 sL_law_1321 := dc_n1 aL_law_1320
theorem aL_law_1322 : dc_at cL_law 1322 sL_law_1322 := dc_n1 aL_law_1321
theorem aL_law_1323 : dc_at cL_law 1323 sL_law_1323 := dc_n1 aL_law_1322
theorem aL_law_1326 : dc_at cL_law 1326 sL_law_1326 := dc_n3 aL_law_1323
theorem aL_law_1328 : dc_at cL_law 1328 sL_law_1328 := dc_n2 aL_law_1326
theorem aL_law_1329 : dc_at cL_law 1329 sL_law_1329 := dc_n1 aL_law_1328
theorem aL_law_1330 : dc_at cL_law 1330 sL_law_1330 := dc_n1 aL_law_1329
theorem aL_law_1332 : dc_at cL_law 1332 sL_law_1332 := dc_n2 aL_law_1330
theorem aL_law_1333 : dc_at cL_law 1333 sL_law_1333 := dc_n1 aL_law_1332
theorem aL_law_1334 : dc_at cL_law 1334 sL_law_1334 := dc_n1 aL_law_1333
theorem aL_law_1335 : dc_at cL_law 1335 sL_law_1335 := dc_n1 aL_law_1334
theorem aL_law_1338 : dc_at cL_law 1338 sL_law_1338 := dc_n3 aL_law_1335
theorem aL_law_1340 : dc_at cL_law 1340 sL_law_1340 := dc_n2 aL_law_1338
theorem aL_law_1343 : dc_at cL_law 1343 sL_law_1343 := dc_n3 aL_law_1340
theorem aL_law_1344 : dc_at cL_law 1344 sL_law_1344 := dc_n1 aL_law_1343
theorem aL_law_1347 : dc_at cL_law 1347 sL_law_1347 := dc_n3 aL_law_1344
theorem aL_law_1348 : dc_at cL_law 1348 sL_law_1348 := dc_n1 aL_law_1347
theorem aL_law_1349 : dc_at cL_law 1349 sL_law_1349 := dc_n1 aL_law_1348
theorem aL_law_1352 : dc_at cL_law 1352 sL_law_1352 := dc_n3 aL_law_1349
theorem aL_law_1353 : dc_at cL_law 1353 sL_law_1353 := dc_n1 aL_law_1352
theorem aL_law_1356 : dc_at cL_law 1356 sL_law_1356 := dc_n3 aL_law_1353
theorem aL_law_1357 : dc_at cL_law 1357 sL_law_1357 := dc_n1 aL_law_1356
theorem aL_law_1360 : dc_at cL_law 1360 sL_law_1360 := dc_n3 aL_law_1357
theorem aL_law_1361 : dc_at cL_law 1361 sL_law_1361 := dc_n1 aL_law_1360
theorem aL_law_1362 : dc_at cL_law 1362 sL_law_1362 := dc_n1 aL_law_1361
theorem aL_law_1365 : dc_at cL_law 1365 sL_law_1365 := dc_n3 aL_law_1362
theorem aL_law_1366 : dc_at cL_law 1366 sL_law_1366 := dc_n1 aL_law_1365
theorem aL_law_1369 : dc_at cL_law 1369 sL_law_1369 := dc_n3 aL_law_1366
theorem aL_law_1370 : dc_at cL_law 1370 sL_law_1370 := dc_n1 aL_law_1369
theorem aL_law_1371 : dc_at cL_law 1371 sL_law_1371 := dc_n1 aL_law_1370
theorem aL_law_1373 : dc_at cL_law 1373 sL_law_1373 := dc_n2 aL_law_1371
theorem aL_law_1374 : dc_at cL_law 1374 sL_law_1374 := dc_n1 aL_law_1373
theorem aL_law_1375 : dc_at cL_law 1375 sL_law_1375 := dc_n1 aL_law_1374
theorem aL_law_1376 : dc_at cL_law 1376 sL_law_1376 := dc_n1 aL_law_1375
theorem aL_law_1377 : dc_at cL_law 1377 sL_law_1377 := dc_n1 aL_law_1376
theorem aL_law_1379 : dc_at cL_law 1379 sL_law_1379 := dc_n2 aL_law_1377
theorem aL_law_1380 : dc_at cL_law 1380 sL_law_1380 := dc_n1 aL_law_1379
theorem aL_law_1381 : dc_at cL_law 1381 sL_law_1381 := dc_n1 aL_law_1380
theorem aL_law_1382 : dc_at cL_law 1382 sL_law_1382 := dc_n1 aL_law_1381
theorem aL_law_1383 : dc_at cL_law 1383 sL_law_1383 := dc_n1 aL_law_1382
theorem aL_law_1385 : dc_at cL_law 1385 sL_law_1385 := dc_n2 aL_law_1383
theorem aL_law_1386 : dc_at cL_law 1386 sL_law_1386 := dc_n1 aL_law_1385
theorem aL_law_1387 : dc_at cL_law 1387 sL_law_1387 := dc_n1 aL_law_1386
theorem aL_law_1388 : dc_at cL_law 1388 sL_law_1388 := dc_n1 aL_law_1387
theorem aL_law_1389 : dc_at cL_law 1389 sL_law_1389 := dc_n1 aL_law_1388
theorem aL_law_1391 : dc_at cL_law 1391 sL_law_1391 := dc_n2 aL_law_1389
theorem aL_law_1392 : dc_at cL_law 1392 sL_law_1392 := dc_n1 aL_law_1391
theorem aL_law_1393 : dc_at cL_law 1393 sL_law_1393 := dc_n1 aL_law_1392
theorem aL_law_1394 : dc_at cL_law 1394 sL_law_1394 := dc_n1 aL_law_1393
theorem aL_law_1395 : dc_at cL_law 1395 sL_law_1395 := dc_n1 aL_law_1394
theorem aL_law_1397 : dc_at cL_law 1397 sL_law_1397 := dc_n2 aL_law_1395
theorem aL_law_1398 : dc_at cL_law 1398 sL_law_1398 := dc_n1 aL_law_1397
theorem aL_law_1399 : dc_at cL_law 1399 sL_law_1399 := dc_n1 aL_law_1398
theorem aL_law_1400 : dc_at cL_law 1400 sL_law_1400 := dc_n1 aL_law_1399
theorem aL_law_1401 : dc_at cL_law 1401 sL_law_1401 := dc_n1 aL_law_1400
theorem aL_law_1404 : dc_at cL_law 1404 sL_law_1404 := dc_n3 aL_law_1401
theorem aL_law_1406 : dc_at cL_law 1406 sL_law_1406 := dc_n2 aL_law_1404
theorem aL_law_1407 : dc_at cL_law 1407 sL_law_1407 := dc_n1 aL_law_1406
theorem aL_law_1408 : dc_at cL_law 1408 sL_law_1408 := dc_n1 aL_law_1407
theorem aL_law_1410 : dc_at cL_law 1410 sL_law_1410 := dc_n2 aL_law_1408
theorem aL_law_1411 : dc_at cL_law 1411 sL_law_1411 := dc_n1 aL_law_1410
theorem aL_law_1412 : dc_at cL_law 1412 sL_law_1412 := dc_n1 aL_law_1411
theorem aL_law_1413 : dc_at cL_law 1413 sL_law_1413 := dc_n1 aL_law_1412
theorem aL_law_1414 : dc_at cL_law 1414 sL_law_1414 := dc_n1 aL_law_1413
theorem aL_law_1416 : dc_at cL_law 1416 sL_law_1416 := dc_n2 aL_law_1414
theorem aL_law_1417 : dc_at cL_law 1417 sL_law_1417 := dc_n1 aL_law_1416
theorem aL_law_1418 : dc_at cL_law 1418 sL_law_1418 := dc_n1 aL_law_1417
theorem aL_law_1419 : dc_at cL_law 1419 sL_law_1419 := dc_n1 aL_law_1418
theorem aL_law_1420 : dc_at cL_law 1420 sL_law_1420 := dc_n1 aL_law_1419
theorem aL_law_1422 : dc_at cL_law 1422 sL_law_1422 := dc_n2 aL_law_1420
theorem aL_law_1423 : dc_at cL_law 1423 sL_law_1423 := dc_n1 aL_law_1422
theorem aL_law_1424 : dc_at cL_law 1424 sL_law_1424 := dc_n1 aL_law_1423
theorem aL_law_1425 : dc_at cL_law 1425 sL_law_1425 := dc_n1 aL_law_1424
theorem aL_law_1426 : dc_at cL_law 1426 sL_law_1426 := dc_n1 aL_law_1425
theorem aL_law_1428 : dc_at cL_law 1428 sL_law_1428 := dc_n2 aL_law_1426
theorem aL_law_1429 : dc_at cL_law 1429 sL_law_1429 := dc_n1 aL_law_1428
theorem aL_law_1430 : dc_at cL_law 1430 sL_law_1430 := dc_n1 aL_law_1429
theorem aL_law_1431 : dc_at cL_law 1431 sL_law_1431 := dc_n1 aL_law_1430
theorem aL_law_1432 : dc_at cL_law 1432 sL_law_1432 := dc_n1 aL_law_1431
theorem aL_law_1434 : dc_at cL_law 1434 sL_law_1434 := dc_n2 aL_law_1432
theorem aL_law_1435 : dc_at cL_law 1435 sL_law_1435 := dc_n1 aL_law_1434
theorem aL_law_1436 : dc_at cL_law 1436 sL_law_1436 := dc_n1 aL_law_1435
theorem aL_law_1437 : dc_at cL_law 1437 sL_law_1437 := dc_n1 aL_law_1436
theorem aL_law_1440 : dc_at cL_law 1440 sL_law_1440 := dc_n3 aL_law_1437
theorem aL_law_1442 : dc_at cL_law 1442 sL_law_1442 := dc_n2 aL_law_1440
theorem aL_law_1445 : dc_at cL_law 1445 sL_law_1445 := dc_n3 aL_law_1442
theorem aL_law_1446 : dc_at cL_law 1446 sL_law_1446 := dc_n1 aL_law_1445
theorem aL_law_1447 : dc_at cL_law 1447 sL_law_1447 := dc_n1 aL_law_1446
theorem aL_law_1449 : dc_at cL_law 1449 sL_law_1449 := dc_n2 aL_law_1447
theorem aL_law_1450 : dc_at cL_law 1450 sL_law_1450 := dc_n1 aL_law_1449
theorem aL_law_1451 : dc_at cL_law 1451 sL_law_1451 := dc_n1 aL_law_1450
theorem aL_law_1452 : dc_at cL_law 1452 sL_law_1452 := dc_n1 aL_law_1451
theorem aL_law_1453 : dc_at cL_law 1453 sL_law_1453 := dc_n1 aL_law_1452
theorem aL_law_1455 : dc_at cL_law 1455 sL_law_1455 := dc_n2 aL_law_1453
theorem aL_law_1456 : dc_at cL_law 1456 sL_law_1456 := dc_n1 aL_law_1455
theorem aL_law_1457 : dc_at cL_law 1457 sL_law_1457 := dc_n1 aL_law_1456
theorem aL_law_1458 : dc_at cL_law 1458 sL_law_1458 := dc_n1 aL_law_1457
theorem aL_law_1459 : dc_at cL_law 1459 sL_law_1459 := dc_n1 aL_law_1458
theorem aL_law_1461 : dc_at cL_law 1461 sL_law_1461 := dc_n2 aL_law_1459
theorem aL_law_1462 : dc_at cL_law 1462 sL_law_1462 := dc_n1 aL_law_1461
theorem aL_law_1463 : dc_at cL_law 1463 sL_law_1463 := dc_n1 aL_law_1462
theorem aL_law_1464 : dc_at cL_law 1464 sL_law_1464 := dc_n1 aL_law_1463
theorem aL_law_1465 : dc_at cL_law 1465 sL_law_1465 := dc_n1 aL_law_1464
theorem aL_law_1467 : dc_at cL_law 1467 sL_law_1467 := dc_n2 aL_law_1465
theorem aL_law_1468 : dc_at cL_law 1468 sL_law_1468 := dc_n1 aL_law_1467
theorem aL_law_1469 : dc_at cL_law 1469 sL_law_1469 := dc_n1 aL_law_1468
theorem aL_law_1470 : dc_at cL_law 1470 sL_law_1470 := dc_n1 aL_law_1469
theorem aL_law_1471 : dc_at cL_law 1471 sL_law_1471 := dc_n1 aL_law_1470
theorem aL_law_1474 : dc_at cL_law 1474 sL_law_1474 := dc_n3 aL_law_1471
theorem aL_law_1476 : dc_at cL_law 1476 sL_law_1476 := dc_n2 aL_law_1474
theorem aL_law_1477 : dc_at cL_law 1477 sL_law_1477 := dc_n1 aL_law_1476
theorem aL_law_1478 : dc_at cL_law 1478 sL_law_1478 := dc_n1 aL_law_1477
theorem aL_law_1480 : dc_at cL_law 1480 sL_law_1480 := dc_n2 aL_law_1478
theorem aL_law_1481 : dc_at cL_law 1481 sL_law_1481 := dc_n1 aL_law_1480
theorem aL_law_1482 : dc_at cL_law 1482 sL_law_1482 := dc_n1 aL_law_1481
theorem aL_law_1483 : dc_at cL_law 1483 sL_law_1483 := dc_n1 aL_law_1482
theorem aL_law_1484 : dc_at cL_law 1484 sL_law_1484 := dc_n1 aL_law_1483
theorem aL_law_1486 : dc_at cL_law 1486 sL_law_1486 := dc_n2 aL_law_1484
theorem aL_law_1487 : dc_at cL_law 1487 sL_law_1487 := dc_n1 aL_law_1486
theorem aL_law_1488 : dc_at cL_law 1488 sL_law_1488 := dc_n1 aL_law_1487
theorem aL_law_1489 : dc_at cL_law 1489 sL_law_1489 := dc_n1 aL_law_1488
theorem aL_law_1490 : dc_at cL_law 1490 sL_law_1490 := dc_n1 aL_law_1489
theorem aL_law_1492 : dc_at cL_law 1492 sL_law_1492 := dc_n2 aL_law_1490
theorem aL_law_1493 : dc_at cL_law 1493 sL_law_1493 := dc_n1 aL_law_1492
theorem aL_law_1494 : dc_at cL_law 1494 sL_law_1494 := dc_n1 aL_law_1493
theorem aL_law_1495 : dc_at cL_law 1495 sL_law_1495 := dc_n1 aL_law_1494
theorem aL_law_1496 : dc_at cL_law 1496 sL_law_1496 := dc_n1 aL_law_1495
theorem aL_law_1498 : dc_at cL_law 1498 sL_law_1498 := dc_n2 aL_law_1496
theorem aL_law_1499 : dc_at cL_law 1499 sL_law_1499 := dc_n1 aL_law_1498
theorem aL_law_1500 : dc_at cL_law 1500 sL_law_1500 := dc_n1 aL_law_1499
theorem aL_law_1501 : dc_at cL_law 1501 sL_law_1501 := dc_n1 aL_law_1500
theorem aL_law_1504 : dc_at cL_law 1504 sL_law_1504 := dc_n3 aL_law_1501
theorem aL_law_1506 : dc_at cL_law 1506 sL_law_1506 := dc_n2 aL_law_1504
theorem aL_law_1509 : dc_at cL_law 1509 sL_law_1509 := dc_n3 aL_law_1506
theorem aL_law_1510 : dc_at cL_law 1510 sL_law_1510 := dc_n1 aL_law_1509
theorem aL_law_1511 : dc_at cL_law 1511 sL_law_1511 := dc_n1 aL_law_1510
theorem aL_law_1513 : dc_at cL_law 1513 sL_law_1513 := dc_n2 aL_law_1511
theorem aL_law_1514 : dc_at cL_law 1514 sL_law_1514 := dc_n1 aL_law_1513
theorem aL_law_1515 : dc_at cL_law 1515 sL_law_1515 := dc_n1 aL_law_1514
theorem aL_law_1516 : dc_at cL_law 1516 sL_law_1516 := dc_n1 aL_law_1515
theorem aL_law_1517 : dc_at cL_law 1517 sL_law_1517 := dc_n1 aL_law_1516
theorem aL_law_1519 : dc_at cL_law 1519 sL_law_1519 := dc_n2 aL_law_1517
theorem aL_law_1520 : dc_at cL_law 1520 sL_law_1520 := dc_n1 aL_law_1519
theorem aL_law_1521 : dc_at cL_law 1521 sL_law_1521 := dc_n1 aL_law_1520
theorem aL_law_1522 : dc_at cL_law 1522 sL_law_1522 := dc_n1 aL_law_1521
theorem aL_law_1523 : dc_at cL_law 1523 sL_law_1523 := dc_n1 aL_law_1522
theorem aL_law_1525 : dc_at cL_law 1525 sL_law_1525 := dc_n2 aL_law_1523
theorem aL_law_1526 : dc_at cL_law 1526 sL_law_1526 := dc_n1 aL_law_1525
theorem aL_law_1527 : dc_at cL_law 1527 sL_law_1527 := dc_n1 aL_law_1526
theorem aL_law_1528 : dc_at cL_law 1528 sL_law_1528 := dc_n1 aL_law_1527
theorem aL_law_1529 : dc_at cL_law 1529 sL_law_1529 := dc_n1 aL_law_1528
theorem aL_law_1532 : dc_at cL_law 1532 sL_law_1532 := dc_n3 aL_law_1529
theorem aL_law_1534 : dc_at cL_law 1534 sL_law_1534 := dc_n2 aL_law_1532
theorem aL_law_1535 : dc_at cL_law 1535 sL_law_1535 := dc_n1 aL_law_1534
theorem aL_law_1536 : dc_at cL_law 1536 sL_law_1536 := dc_n1 aL_law_1535
theorem aL_law_1538 : dc_at cL_law 1538 sL_law_1538 := dc_n2 aL_law_1536
theorem aL_law_1539 : dc_at cL_law 1539 sL_law_1539 := dc_n1 aL_law_1538
theorem aL_law_1540 : dc_at cL_law 1540 sL_law_1540 := dc_n1 aL_law_1539
theorem aL_law_1541 : dc_at cL_law 1541 sL_law_1541 := dc_n1 aL_law_1540
theorem aL_law_1542 : dc_at cL_law 1542 sL_law_1542 := dc_n1 aL_law_1541
theorem aL_law_1544 : dc_at cL_law 1544 sL_law_1544 := dc_n2 aL_law_1542
theorem aL_law_1545 : dc_at cL_law 1545 sL_law_1545 := dc_n1 aL_law_1544
theorem aL_law_1546 : dc_at cL_law 1546 sL_law_1546 := dc_n1 aL_law_1545
theorem aL_law_1547 : dc_at cL_law 1547 sL_law_1547 := dc_n1 aL_law_1546
theorem aL_law_1548 : dc_at cL_law 1548 sL_law_1548 := dc_n1 aL_law_1547
theorem aL_law_1550 : dc_at cL_law 1550 sL_law_1550 := dc_n2 aL_law_1548
theorem aL_law_1551 : dc_at cL_law 1551 sL_law_1551 := dc_n1 aL_law_1550
theorem aL_law_1552 : dc_at cL_law 1552 sL_law_1552 := dc_n1 aL_law_1551
theorem aL_law_1553 : dc_at cL_law 1553 sL_law_1553 := dc_n1 aL_law_1552
theorem aL_law_1556 : dc_at cL_law 1556 sL_law_1556 := dc_n3 aL_law_1553
theorem aL_law_1558 : dc_at cL_law 1558 sL_law_1558 := dc_n2 aL_law_1556
theorem aL_law_1561 : dc_at cL_law 1561 sL_law_1561 := dc_n3 aL_law_1558
theorem aL_law_1562 : dc_at cL_law 1562 sL_law_1562 := dc_n1 aL_law_1561
theorem aL_law_1563 : dc_at cL_law 1563 sL_law_1563 := dc_n1 aL_law_1562
theorem aL_law_1565 : dc_at cL_law 1565 sL_law_1565 := dc_n2 aL_law_1563
theorem aL_law_1566 : dc_at cL_law 1566 sL_law_1566 := dc_n1 aL_law_1565
theorem aL_law_1567 : dc_at cL_law 1567 sL_law_1567 := dc_n1 aL_law_1566
theorem aL_law_1568 : dc_at cL_law 1568 sL_law_1568 := dc_n1 aL_law_1567
theorem aL_law_1569 : dc_at cL_law 1569 sL_law_1569 := dc_n1 aL_law_1568
theorem aL_law_1571 : dc_at cL_law 1571 sL_law_1571 := dc_n2 aL_law_1569
theorem aL_law_1572 : dc_at cL_law 1572 sL_law_1572 := dc_n1 aL_law_1571
theorem aL_law_1573 : dc_at cL_law 1573 sL_law_1573 := dc_n1 aL_law_1572
theorem aL_law_1574 : dc_at cL_law 1574 sL_law_1574 := dc_n1 aL_law_1573
theorem aL_law_1575 : dc_at cL_law 1575 sL_law_1575 := dc_n1 aL_law_1574
theorem aL_law_1578 : dc_at cL_law 1578 sL_law_1578 := dc_n3 aL_law_1575
theorem aL_law_1580 : dc_at cL_law 1580 sL_law_1580 := dc_n2 aL_law_1578
theorem aL_law_1581 : dc_at cL_law 1581 sL_law_1581 := dc_n1 aL_law_1580
theorem aL_law_1582 : dc_at cL_law 1582 sL_law_1582 := dc_n1 aL_law_1581
theorem aL_law_1584 : dc_at cL_law 1584 sL_law_1584 := dc_n2 aL_law_1582
theorem aL_law_1585 : dc_at cL_law 1585 sL_law_1585 := dc_n1 aL_law_1584
theorem aL_law_1586 : dc_at cL_law 1586 sL_law_1586 := dc_n1 aL_law_1585
theorem aL_law_1587 : dc_at cL_law 1587 sL_law_1587 := dc_n1 aL_law_1586
theorem aL_law_1588 : dc_at cL_law 1588 sL_law_1588 := dc_n1 aL_law_1587
theorem aL_law_1590 : dc_at cL_law 1590 sL_law_1590 := dc_n2 aL_law_1588
theorem aL_law_1591 : dc_at cL_law 1591 sL_law_1591 := dc_n1 aL_law_1590
theorem aL_law_1592 : dc_at cL_law 1592 sL_law_1592 := dc_n1 aL_law_1591
theorem aL_law_1593 : dc_at cL_law 1593 sL_law_1593 := dc_n1 aL_law_1592
theorem aL_law_1596 : dc_at cL_law 1596 sL_law_1596 := dc_n3 aL_law_1593
theorem aL_law_1598 : dc_at cL_law 1598 sL_law_1598 := dc_n2 aL_law_1596
theorem aL_law_1601 : dc_at cL_law 1601 sL_law_1601 := dc_n3 aL_law_1598
theorem aL_law_1602 : dc_at cL_law 1602 sL_law_1602 := dc_n1 aL_law_1601
theorem aL_law_1603 : dc_at cL_law 1603 sL_law_1603 := dc_n1 aL_law_1602
theorem aL_law_1605 : dc_at cL_law 1605 sL_law_1605 := dc_n2 aL_law_1603
theorem aL_law_1606 : dc_at cL_law 1606 sL_law_1606 := dc_n1 aL_law_1605
theorem aL_law_1607 : dc_at cL_law 1607 sL_law_1607 := dc_n1 aL_law_1606
theorem aL_law_1608 : dc_at cL_law 1608 sL_law_1608 := dc_n1 aL_law_1607
theorem aL_law_1609 : dc_at cL_law 1609 sL_law_1609 := dc_n1 aL_law_1608
theorem aL_law_1611 : dc_at cL_law 1611 sL_law_1611 := dc_n2 aL_law_1609
theorem aL_law_1612 : dc_at cL_law 1612 sL_law_1612 := dc_n1 aL_law_1611
theorem aL_law_1613 : dc_at cL_law 1613 sL_law_1613 := dc_n1 aL_law_1612
theorem aL_law_1614 : dc_at cL_law 1614 sL_law_1614 := dc_n1 aL_law_1613
theorem aL_law_1615 : dc_at cL_law 1615 sL_law_1615 := dc_n1 aL_law_1614
theorem aL_law_1617 : dc_at cL_law 1617 sL_law_1617 := dc_n2 aL_law_1615
theorem aL_law_1618 : dc_at cL_law 1618 sL_law_1618 := dc_n1 aL_law_1617
theorem aL_law_1619 : dc_at cL_law 1619 sL_law_1619 := dc_n1 aL_law_1618
theorem aL_law_1620 : dc_at cL_law 1620 sL_law_1620 := dc_n1 aL_law_1619
theorem aL_law_1621 : dc_at cL_law 1621 sL_law_1621 := dc_n1 aL_law_1620
theorem aL_law_1624 : dc_at cL_law 1624 sL_law_1624 := dc_n3 aL_law_1621
theorem aL_law_1626 : dc_at cL_law 1626 sL_law_1626 := dc_n2 aL_law_1624
theorem aL_law_1627 : dc_at cL_law 1627 sL_law_1627 := dc_n1 aL_law_1626
theorem aL_law_1628 : dc_at cL_law 1628 sL_law_1628 := dc_n1 aL_law_1627
theorem aL_law_1630 : dc_at cL_law 1630 sL_law_1630 := dc_n2 aL_law_1628
theorem aL_law_1631 : dc_at cL_law 1631 sL_law_1631 := dc_n1 aL_law_1630
theorem aL_law_1632 : dc_at cL_law 1632 sL_law_1632 := dc_n1 aL_law_1631
theorem aL_law_1633 : dc_at cL_law 1633 sL_law_1633 := dc_n1 aL_law_1632
theorem aL_law_1634 : dc_at cL_law 1634 sL_law_1634 := dc_n1 aL_law_1633
theorem aL_law_1636 : dc_at cL_law 1636 sL_law_1636 := dc_n2 aL_law_1634
theorem aL_law_1637 : dc_at cL_law 1637 sL_law_1637 := dc_n1 aL_law_1636
theorem aL_law_1638 : dc_at cL_law 1638 sL_law_1638 := dc_n1 aL_law_1637
theorem aL_law_1639 : dc_at cL_law 1639 sL_law_1639 := dc_n1 aL_law_1638
theorem aL_law_1640 : dc_at cL_law 1640 sL_law_1640 := dc_n1 aL_law_1639
theorem aL_law_1642 : dc_at cL_law 1642 sL_law_1642 := dc_n2 aL_law_1640
theorem aL_law_1643 : dc_at cL_law 1643 sL_law_1643 := dc_n1 aL_law_1642
theorem aL_law_1644 : dc_at cL_law 1644 sL_law_1644 := dc_n1 aL_law_1643
theorem aL_law_1645 : dc_at cL_law 1645 sL_law_1645 := dc_n1 aL_law_1644
theorem aL_law_1648 : dc_at cL_law 1648 sL_law_1648 := dc_n3 aL_law_1645
theorem aL_law_1650 : dc_at cL_law 1650 sL_law_1650 := dc_n2 aL_law_1648
theorem aL_law_1651 : dc_at cL_law 1651 sL_law_1651 := dc_n1 aL_law_1650
theorem aL_law_1654 : dc_at cL_law 1654 sL_law_1654 := dc_n3 aL_law_1651
theorem aL_law_1656 : dc_at cL_law 1656 sL_law_1656 := dc_n2 aL_law_1654
theorem aL_law_1659 : dc_at cL_law 1659 sL_law_1659 := dc_n3 aL_law_1656
theorem aL_law_1660 : dc_at cL_law 1660 sL_law_1660 := dc_n1 aL_law_1659
theorem aL_law_1661 : dc_at cL_law 1661 sL_law_1661 := dc_n1 aL_law_1660
theorem aL_law_1663 : dc_at cL_law 1663 sL_law_1663 := dc_n2 aL_law_1661
theorem aL_law_1666 : dc_at cL_law 1666 sL_law_1666 := dc_n3 aL_law_1663
theorem aL_law_1667 : dc_at cL_law 1667 sL_law_1667 := dc_n1 aL_law_1666
theorem aL_law_1668 : dc_at cL_law 1668 sL_law_1668 := dc_n1 aL_law_1667
theorem aL_law_1669 : dc_at cL_law 1669 sL_law_1669 := dc_n1 aL_law_1668
theorem aL_law_1671 : dc_at cL_law 1671 sL_law_1671 := dc_n2 aL_law_1669
theorem aL_law_1672 : dc_at cL_law 1672 sL_law_1672 := dc_n1 aL_law_1671
theorem aL_law_1673 : dc_at cL_law 1673 sL_law_1673 := dc_n1 aL_law_1672
theorem aL_law_1676 : dc_at cL_law 1676 sL_law_1676 := dc_n3 aL_law_1673
theorem aL_law_1677 : dc_at cL_law 1677 sL_law_1677 := dc_n1 aL_law_1676
theorem aL_law_1678 : dc_at cL_law 1678 sL_law_1678 := dc_n1 aL_law_1677
theorem aL_law_1681 : dc_at cL_law 1681 sL_law_1681 := dc_n3 aL_law_1678
theorem aL_law_1682 : dc_at cL_law 1682 sL_law_1682 := dc_n1 aL_law_1681
theorem aL_law_1683 : dc_at cL_law 1683 sL_law_1683 := dc_n1 aL_law_1682
theorem aL_law_1685 : dc_at cL_law 1685 sL_law_1685 := dc_n2 aL_law_1683
theorem aL_law_1686 : dc_at cL_law 1686 sL_law_1686 := dc_n1 aL_law_1685
theorem aL_law_1687 : dc_at cL_law 1687 sL_law_1687 := dc_n1 aL_law_1686
theorem aL_law_1688 : dc_at cL_law 1688 sL_law_1688 := dc_n1 aL_law_1687
theorem aL_law_1689 : dc_at cL_law 1689 sL_law_1689 := dc_n1 aL_law_1688
theorem aL_law_1691 : dc_at cL_law 1691 sL_law_1691 := dc_n2 aL_law_1689
theorem aL_law_1692 : dc_at cL_law 1692 sL_law_1692 := dc_n1 aL_law_1691
theorem aL_law_1693 : dc_at cL_law 1693 sL_law_1693 := dc_n1 aL_law_1692
theorem aL_law_1694 : dc_at cL_law 1694 sL_law_1694 := dc_n1 aL_law_1693
theorem aL_law_1695 : dc_at cL_law 1695 sL_law_1695 := dc_n1 aL_law_1694
theorem aL_law_1698 : dc_at cL_law 1698 sL_law_1698 := dc_n3 aL_law_1695
theorem aL_law_1700 : dc_at cL_law 1700 sL_law_1700 := dc_n2 aL_law_1698
theorem aL_law_1701 : dc_at cL_law 1701 sL_law_1701 := dc_n1 aL_law_1700
theorem aL_law_1702 : dc_at cL_law 1702 sL_law_1702 := dc_n1 aL_law_1701
theorem aL_law_1704 : dc_at cL_law 1704 sL_law_1704 := dc_n2 aL_law_1702
theorem aL_law_1705 : dc_at cL_law 1705 sL_law_1705 := dc_n1 aL_law_1704
theorem aL_law_1706 : dc_at cL_law 1706 sL_law_1706 := dc_n1 aL_law_1705
theorem aL_law_1707 : dc_at cL_law 1707 sL_law_1707 := dc_n1 aL_law_1706
theorem aL_law_1708 : dc_at cL_law 1708 sL_law_1708 := dc_n1 aL_law_1707
theorem aL_law_1710 : dc_at cL_law 1710 sL_law_1710 := dc_n2 aL_law_1708
theorem aL_law_1711 : dc_at cL_law 1711 sL_law_1711 := dc_n1 aL_law_1710
theorem aL_law_1712 : dc_at cL_law 1712 sL_law_1712 := dc_n1 aL_law_1711
theorem aL_law_1713 : dc_at cL_law 1713 sL_law_1713 := dc_n1 aL_law_1712
theorem aL_law_1716 : dc_at cL_law 1716 sL_law_1716 := dc_n3 aL_law_1713
theorem aL_law_1718 : dc_at cL_law 1718 sL_law_1718 := dc_n2 aL_law_1716
theorem aL_law_1721 : dc_at cL_law 1721 sL_law_1721 := dc_n3 aL_law_1718
theorem aL_law_1722 : dc_at cL_law 1722 sL_law_1722 := dc_n1 aL_law_1721
theorem aL_law_1723 : dc_at cL_law 1723 sL_law_1723 := dc_n1 aL_law_1722
theorem aL_law_1725 : dc_at cL_law 1725 sL_law_1725 := dc_n2 aL_law_1723
theorem aL_law_1726 : dc_at cL_law 1726 sL_law_1726 := dc_n1 aL_law_1725
theorem aL_law_1727 : dc_at cL_law 1727 sL_law_1727 := dc_n1 aL_law_1726
theorem aL_law_1728 : dc_at cL_law 1728 sL_law_1728 := dc_n1 aL_law_1727
theorem aL_law_1729 : dc_at cL_law 1729 sL_law_1729 := dc_n1 aL_law_1728
theorem aL_law_1731 : dc_at cL_law 1731 sL_law_1731 := dc_n2 aL_law_1729
theorem aL_law_1732 : dc_at cL_law 1732 sL_law_1732 := dc_n1 aL_law_1731
theorem aL_law_1733 : dc_at cL_law 1733 sL_law_1733 := dc_n1 aL_law_1732
theorem aL_law_1734 : dc_at cL_law 1734 sL_law_1734 := dc_n1 aL_law_1733
theorem aL_law_1735 : dc_at cL_law 1735 sL_law_1735 := dc_n1 aL_law_1734
theorem aL_law_1737 : dc_at cL_law 1737 sL_law_1737 := dc_n2 aL_law_1735
theorem aL_law_1738 : dc_at cL_law 1738 sL_law_1738 := dc_n1 aL_law_1737
theorem aL_law_1739 : dc_at cL_law 1739 sL_law_1739 := dc_n1 aL_law_1738
theorem aL_law_1740 : dc_at cL_law 1740 sL_law_1740 := dc_n1 aL_law_1739
theorem aL_law_1741 : dc_at cL_law 1741 sL_law_1741 := dc_n1 aL_law_1740
theorem aL_law_1744 : dc_at cL_law 1744 sL_law_1744 := dc_n3 aL_law_1741
theorem aL_law_1746 : dc_at cL_law 1746 sL_law_1746 := dc_n2 aL_law_1744
theorem aL_law_1747 : dc_at cL_law 1747 sL_law_1747 := dc_n1 aL_law_1746
theorem aL_law_1748 : dc_at cL_law 1748 sL_law_1748 := dc_n1 aL_law_1747
theorem aL_law_1750 : dc_at cL_law 1750 sL_law_1750 := dc_n2 aL_law_1748
theorem aL_law_1751 : dc_at cL_law 1751 sL_law_1751 := dc_n1 aL_law_1750
theorem aL_law_1752 : dc_at cL_law 1752 sL_law_1752 := dc_n1 aL_law_1751
theorem aL_law_1753 : dc_at cL_law 1753 sL_law_1753 := dc_n1 aL_law_1752
theorem aL_law_1754 : dc_at cL_law 1754 sL_law_1754 := dc_n1 aL_law_1753
theorem aL_law_1756 : dc_at cL_law 1756 sL_law_1756 := dc_n2 aL_law_1754
theorem aL_law_1757 : dc_at cL_law 1757 sL_law_1757 := dc_n1 aL_law_1756
theorem aL_law_1758 : dc_at cL_law 1758 sL_law_1758 := dc_n1 aL_law_1757
theorem aL_law_1759 : dc_at cL_law 1759 sL_law_1759 := dc_n1 aL_law_1758
theorem aL_law_1760 : dc_at cL_law 1760 sL_law_1760 := dc_n1 aL_law_1759
theorem aL_law_1762 : dc_at cL_law 1762 sL_law_1762 := dc_n2 aL_law_1760
theorem aL_law_1763 : dc_at cL_law 1763 sL_law_1763 := dc_n1 aL_law_1762
theorem aL_law_1764 : dc_at cL_law 1764 sL_law_1764 := dc_n1 aL_law_1763
theorem aL_law_1765 : dc_at cL_law 1765 sL_law_1765 := dc_n1 aL_law_1764
theorem aL_law_1768 : dc_at cL_law 1768 sL_law_1768 := dc_n3 aL_law_1765
theorem aL_law_1770 : dc_at cL_law 1770 sL_law_1770 := dc_n2 aL_law_1768
theorem aL_law_1773 : dc_at cL_law 1773 sL_law_1773 := dc_n3 aL_law_1770
theorem aL_law_1774 : dc_at cL_law 1774 sL_law_1774 := dc_n1 aL_law_1773
theorem aL_law_1775 : dc_at cL_law 1775 sL_law_1775 := dc_n1 aL_law_1774
theorem aL_law_1777 : dc_at cL_law 1777 sL_law_1777 := dc_n2 aL_law_1775
theorem aL_law_1778 : dc_at cL_law 1778 sL_law_1778 := dc_n1 aL_law_1777
theorem aL_law_1779 : dc_at cL_law 1779 sL_law_1779 := dc_n1 aL_law_1778
theorem aL_law_1780 : dc_at cL_law 1780 sL_law_1780 := dc_n1 aL_law_1779
theorem aL_law_1781 : dc_at cL_law 1781 sL_law_1781 := dc_n1 aL_law_1780
theorem aL_law_1783 : dc_at cL_law 1783 sL_law_1783 := dc_n2 aL_law_1781
theorem aL_law_1784 : dc_at cL_law 1784 sL_law_1784 := dc_n1 aL_law_1783
theorem aL_law_1785 : dc_at cL_law 1785 sL_law_1785 := dc_n1 aL_law_1784
theorem aL_law_1786 : dc_at cL_law 1786 sL_law_1786 := dc_n1 aL_law_1785
theorem aL_law_1787 : dc_at cL_law 1787 sL_law_1787 := dc_n1 aL_law_1786
theorem aL_law_1789 : dc_at cL_law 1789 sL_law_1789 := dc_n2 aL_law_1787
theorem aL_law_1790 : dc_at cL_law 1790 sL_law_1790 := dc_n1 aL_law_1789
theorem aL_law_1791 : dc_at cL_law 1791 sL_law_1791 := dc_n1 aL_law_1790
theorem aL_law_1792 : dc_at cL_law 1792 sL_law_1792 := dc_n1 aL_law_1791
theorem aL_law_1793 : dc_at cL_law 1793 sL_law_1793 := dc_n1 aL_law_1792
theorem aL_law_1796 : dc_at cL_law 1796 sL_law_1796 := dc_n3 aL_law_1793
theorem aL_law_1798 : dc_at cL_law 1798 sL_law_1798 := dc_n2 aL_law_1796
theorem aL_law_1799 : dc_at cL_law 1799 sL_law_1799 := dc_n1 aL_law_1798
theorem aL_law_1800 : dc_at cL_law 1800 sL_law_1800 := dc_n1 aL_law_1799
theorem aL_law_1802 : dc_at cL_law 1802 sL_law_1802 := dc_n2 aL_law_1800
theorem aL_law_1803 : dc_at cL_law 1803 sL_law_1803 := dc_n1 aL_law_1802
theorem aL_law_1804 : dc_at cL_law 1804 sL_law_1804 := dc_n1 aL_law_1803
theorem aL_law_1805 : dc_at cL_law 1805 sL_law_1805 := dc_n1 aL_law_1804
theorem aL_law_1806 : dc_at cL_law 1806 sL_law_1806 := dc_n1 aL_law_1805
theorem aL_law_1808 : dc_at cL_law 1808 sL_law_1808 := dc_n2 aL_law_1806
theorem aL_law_1809 : dc_at cL_law 1809 sL_law_1809 := dc_n1 aL_law_1808
theorem aL_law_1810 : dc_at cL_law 1810 sL_law_1810 := dc_n1 aL_law_1809
theorem aL_law_1811 : dc_at cL_law 1811 sL_law_1811 := dc_n1 aL_law_1810
theorem aL_law_1812 : dc_at cL_law 1812 sL_law_1812 := dc_n1 aL_law_1811
theorem aL_law_1814 : dc_at cL_law 1814 sL_law_1814 := dc_n2 aL_law_1812
theorem aL_law_1815 : dc_at cL_law 1815 sL_law_1815 := dc_n1 aL_law_1814
theorem aL_law_1816 : dc_at cL_law 1816 sL_law_1816 := dc_n1 aL_law_1815
theorem aL_law_1817 : dc_at cL_law 1817 sL_law_1817 := dc_n1 aL_law_1816
theorem aL_law_1820 : dc_at cL_law 1820 sL_law_1820 := dc_n3 aL_law_1817
theorem aL_law_1822 : dc_at cL_law 1822 sL_law_1822 := dc_n2 aL_law_1820
theorem aL_law_1825 : dc_at cL_law 1825 sL_law_1825 := dc_n3 aL_law_1822
theorem aL_law_1826 : dc_at cL_law 1826 sL_law_1826 := dc_n1 aL_law_1825
theorem aL_law_1827 : dc_at cL_law 1827 sL_law_1827 := dc_n1 aL_law_1826
theorem aL_law_1829 : dc_at cL_law 1829 sL_law_1829 := dc_n2 aL_law_1827
theorem aL_law_1830 : dc_at cL_law 1830 sL_law_1830 := dc_n1 aL_law_1829
theorem aL_law_1831 : dc_at cL_law 1831 sL_law_1831 := dc_n1 aL_law_1830
theorem aL_law_1832 : dc_at cL_law 1832 sL_law_1832 := dc_n1 aL_law_1831
theorem aL_law_1833 : dc_at cL_law 1833 sL_law_1833 := dc_n1 aL_law_1832
theorem aL_law_1835 : dc_at cL_law 1835 sL_law_1835 := dc_n2 aL_law_1833
theorem aL_law_1836 : dc_at cL_law 1836 sL_law_1836 := dc_n1 aL_law_1835
theorem aL_law_1837 : dc_at cL_law 1837 sL_law_1837 := dc_n1 aL_law_1836
theorem aL_law_1838 : dc_at cL_law 1838 sL_law_1838 := dc_n1 aL_law_1837
theorem aL_law_1839 : dc_at cL_law 1839 sL_law_1839 := dc_n1 aL_law_1838
theorem aL_law_1842 : dc_at cL_law 1842 sL_law_1842 := dc_n3 aL_law_1839
theorem aL_law_1844 : dc_at cL_law 1844 sL_law_1844 := dc_n2 aL_law_1842
theorem aL_law_1845 : dc_at cL_law 1845 sL_law_1845 := dc_n1 aL_law_1844
theorem aL_law_1846 : dc_at cL_law 1846 sL_law_1846 := dc_n1 aL_law_1845
theorem aL_law_1848 : dc_at cL_law 1848 sL_law_1848 := dc_n2 aL_law_1846
theorem aL_law_1849 : dc_at cL_law 1849 sL_law_1849 := dc_n1 aL_law_1848
theorem aL_law_1850 : dc_at cL_law 1850 sL_law_1850 := dc_n1 aL_law_1849
theorem aL_law_1851 : dc_at cL_law 1851 sL_law_1851 := dc_n1 aL_law_1850
theorem aL_law_1852 : dc_at cL_law 1852 sL_law_1852 := dc_n1 aL_law_1851
theorem aL_law_1854 : dc_at cL_law 1854 sL_law_1854 := dc_n2 aL_law_1852
theorem aL_law_1855 : dc_at cL_law 1855 sL_law_1855 := dc_n1 aL_law_1854
theorem aL_law_1856 : dc_at cL_law 1856 sL_law_1856 := dc_n1 aL_law_1855
theorem aL_law_1857 : dc_at cL_law 1857 sL_law_1857 := dc_n1 aL_law_1856
theorem aL_law_1860 : dc_at cL_law 1860 sL_law_1860 := dc_n3 aL_law_1857
theorem aL_law_1862 : dc_at cL_law 1862 sL_law_1862 := dc_n2 aL_law_1860
theorem aL_law_1865 : dc_at cL_law 1865 sL_law_1865 := dc_n3 aL_law_1862
theorem aL_law_1866 : dc_at cL_law 1866 sL_law_1866 := dc_n1 aL_law_1865
theorem aL_law_1869 : dc_at cL_law 1869 sL_law_1869 := dc_n3 aL_law_1866
theorem aL_law_1870 : dc_at cL_law 1870 sL_law_1870 := dc_n1 aL_law_1869
theorem aL_law_1871 : dc_at cL_law 1871 sL_law_1871 := dc_n1 aL_law_1870
theorem aL_law_1874 : dc_at cL_law 1874 sL_law_1874 := dc_n3 aL_law_1871
theorem aL_law_1875 : dc_at cL_law 1875 sL_law_1875 := dc_n1 aL_law_1874
theorem aL_law_1878 : dc_at cL_law 1878 sL_law_1878 := dc_n3 aL_law_1875
theorem aL_law_1879 : dc_at cL_law 1879 sL_law_1879 := dc_n1 aL_law_1878
theorem aL_law_1880 : dc_at cL_law 1880 sL_law_1880 := dc_n1 aL_law_1879
theorem aL_law_1882 : dc_at cL_law 1882 sL_law_1882 := dc_n2 aL_law_1880
theorem aL_law_1883 : dc_at cL_law 1883 sL_law_1883 := dc_n1 aL_law_1882
theorem aL_law_1884 : dc_at cL_law 1884 sL_law_1884 := dc_n1 aL_law_1883
theorem aL_law_1885 : dc_at cL_law 1885 sL_law_1885 := dc_n1 aL_law_1884
theorem aL_law_1886 : dc_at cL_law 1886 sL_law_1886 := dc_n1 aL_law_1885
theorem aL_law_1889 : dc_at cL_law 1889 sL_law_1889 := dc_n3 aL_law_1886
theorem aL_law_1891 : dc_at cL_law 1891 sL_law_1891 := dc_n2 aL_law_1889
theorem aL_law_1892 : dc_at cL_law 1892 sL_law_1892 := dc_n1 aL_law_1891
theorem aL_law_1893 : dc_at cL_law 1893 sL_law_1893 := dc_n1 aL_law_1892
theorem aL_law_1895 : dc_at cL_law 1895 sL_law_1895 := dc_n2 aL_law_1893
theorem aL_law_1896 : dc_at cL_law 1896 sL_law_1896 := dc_n1 aL_law_1895
theorem aL_law_1897 : dc_at cL_law 1897 sL_law_1897 := dc_n1 aL_law_1896
theorem aL_law_1898 : dc_at cL_law 1898 sL_law_1898 := dc_n1 aL_law_1897
theorem aL_law_1901 : dc_at cL_law 1901 sL_law_1901 := dc_n3 aL_law_1898
theorem aL_law_1903 : dc_at cL_law 1903 sL_law_1903 := dc_n2 aL_law_1901
theorem aL_law_1906 : dc_at cL_law 1906 sL_law_1906 := dc_n3 aL_law_1903
theorem aL_law_1907 : dc_at cL_law 1907 sL_law_1907 := dc_n1 aL_law_1906
theorem aL_law_1908 : dc_at cL_law 1908 sL_law_1908 := dc_n1 aL_law_1907
theorem aL_law_1910 : dc_at cL_law 1910 sL_law_1910 := dc_n2 aL_law_1908
theorem aL_law_1911 : dc_at cL_law 1911 sL_law_1911 := dc_n1 aL_law_1910
theorem aL_law_1912 : dc_at cL_law 1912 sL_law_1912 := dc_n1 aL_law_1911
theorem aL_law_1913 : dc_at cL_law 1913 sL_law_1913 := dc_n1 aL_law_1912
theorem aL_law_1914 : dc_at cL_law 1914 sL_law_1914 := dc_n1 aL_law_1913
theorem aL_law_1916 : dc_at cL_law 1916 sL_law_1916 := dc_n2 aL_law_1914
theorem aL_law_1917 : dc_at cL_law 1917 sL_law_1917 := dc_n1 aL_law_1916
theorem aL_law_1918 : dc_at cL_law 1918 sL_law_1918 := dc_n1 aL_law_1917
theorem aL_law_1919 : dc_at cL_law 1919 sL_law_1919 := dc_n1 aL_law_1918
theorem aL_law_1920 : dc_at cL_law 1920 sL_law_1920 := dc_n1 aL_law_1919
theorem aL_law_1922 : dc_at cL_law 1922 sL_law_1922 := dc_n2 aL_law_1920
theorem aL_law_1923 : dc_at cL_law 1923 sL_law_1923 := dc_n1 aL_law_1922
theorem aL_law_1924 : dc_at cL_law 1924 sL_law_1924 := dc_n1 aL_law_1923
theorem aL_law_1925 : dc_at cL_law 1925 sL_law_1925 := dc_n1 aL_law_1924
theorem aL_law_1926 : dc_at cL_law 1926 sL_law_1926 := dc_n1 aL_law_1925
theorem aL_law_1929 : dc_at cL_law 1929 sL_law_1929 := dc_n3 aL_law_1926
theorem aL_law_1931 : dc_at cL_law 1931 sL_law_1931 := dc_n2 aL_law_1929
theorem aL_law_1932 : dc_at cL_law 1932 sL_law_1932 := dc_n1 aL_law_1931
theorem aL_law_1933 : dc_at cL_law 1933 sL_law_1933 := dc_n1 aL_law_1932
theorem aL_law_1935 : dc_at cL_law 1935 sL_law_1935 := dc_n2 aL_law_1933
theorem aL_law_1936 : dc_at cL_law 1936 sL_law_1936 := dc_n1 aL_law_1935
theorem aL_law_1937 : dc_at cL_law 1937 sL_law_1937 := dc_n1 aL_law_1936
theorem aL_law_1938 : dc_at cL_law 1938 sL_law_1938 := dc_n1 aL_law_1937
theorem aL_law_1939 : dc_at cL_law 1939 sL_law_1939 := dc_n1 aL_law_1938
theorem aL_law_1941 : dc_at cL_law 1941 sL_law_1941 := dc_n2 aL_law_1939
theorem aL_law_1942 : dc_at cL_law 1942 sL_law_1942 := dc_n1 aL_law_1941
theorem aL_law_1943 : dc_at cL_law 1943 sL_law_1943 := dc_n1 aL_law_1942
theorem aL_law_1944 : dc_at cL_law 1944 sL_law_1944 := dc_n1 aL_law_1943
theorem aL_law_1945 : dc_at cL_law 1945 sL_law_1945 := dc_n1 aL_law_1944
theorem aL_law_1947 : dc_at cL_law 1947 sL_law_1947 := dc_n2 aL_law_1945
theorem aL_law_1948 : dc_at cL_law 1948 sL_law_1948 := dc_n1 aL_law_1947
theorem aL_law_1949 : dc_at cL_law 1949 sL_law_1949 := dc_n1 aL_law_1948
theorem aL_law_1950 : dc_at cL_law 1950 sL_law_1950 := dc_n1 aL_law_1949
theorem aL_law_1953 : dc_at cL_law 1953 sL_law_1953 := dc_n3 aL_law_1950
theorem aL_law_1955 : dc_at cL_law 1955 sL_law_1955 := dc_n2 aL_law_1953
theorem aL_law_1958 : dc_at cL_law 1958 sL_law_1958 := dc_n3 aL_law_1955
theorem aL_law_1959 : dc_at cL_law 1959 sL_law_1959 := dc_n1 aL_law_1958
theorem aL_law_1960 : dc_at cL_law 1960 sL_law_1960 := dc_n1 aL_law_1959
theorem aL_law_1962 : dc_at cL_law 1962 sL_law_1962 := dc_n2 aL_law_1960
theorem aL_law_1963 : dc_at cL_law 1963 sL_law_1963 := dc_n1 aL_law_1962
theorem aL_law_1964 : dc_at cL_law 1964 sL_law_1964 := dc_n1 aL_law_1963
theorem aL_law_1965 : dc_at cL_law 1965 sL_law_1965 := dc_n1 aL_law_1964
theorem aL_law_1966 : dc_at cL_law 1966 sL_law_1966 := dc_n1 aL_law_1965
theorem aL_law_1968 : dc_at cL_law 1968 sL_law_1968 := dc_n2 aL_law_1966
theorem aL_law_1969 : dc_at cL_law 1969 sL_law_1969 := dc_n1 aL_law_1968
theorem aL_law_1970 : dc_at cL_law 1970 sL_law_1970 := dc_n1 aL_law_1969
theorem aL_law_1971 : dc_at cL_law 1971 sL_law_1971 := dc_n1 aL_law_1970
theorem aL_law_1972 : dc_at cL_law 1972 sL_law_1972 := dc_n1 aL_law_1971
theorem aL_law_1975 : dc_at cL_law 1975 sL_law_1975 := dc_n3 aL_law_1972
theorem aL_law_1977 : dc_at cL_law 1977 sL_law_1977 := dc_n2 aL_law_1975
theorem aL_law_1978 : dc_at cL_law 1978 sL_law_1978 := dc_n1 aL_law_1977
theorem aL_law_1979 : dc_at cL_law 1979 sL_law_1979 := dc_n1 aL_law_1978
theorem aL_law_1981 : dc_at cL_law 1981 sL_law_1981 := dc_n2 aL_law_1979
theorem aL_law_1982 : dc_at cL_law 1982 sL_law_1982 := dc_n1 aL_law_1981
theorem aL_law_1983 : dc_at cL_law 1983 sL_law_1983 := dc_n1 aL_law_1982
theorem aL_law_1984 : dc_at cL_law 1984 sL_law_1984 := dc_n1 aL_law_1983
theorem aL_law_1985 : dc_at cL_law 1985 sL_law_1985 := dc_n1 aL_law_1984
theorem aL_law_1987 : dc_at cL_law 1987 sL_law_1987 := dc_n2 aL_law_1985
theorem aL_law_1988 : dc_at cL_law 1988 sL_law_1988 := dc_n1 aL_law_1987
theorem aL_law_1989 : dc_at cL_law 1989 sL_law_1989 := dc_n1 aL_law_1988
theorem aL_law_1990 : dc_at cL_law 1990 sL_law_1990 := dc_n1 aL_law_1989
theorem aL_law_1993 : dc_at cL_law 1993 sL_law_1993 := dc_n3 aL_law_1990
theorem aL_law_1995 : dc_at cL_law 1995 sL_law_1995 := dc_n2 aL_law_1993
theorem aL_law_1998 : dc_at cL_law 1998 sL_law_1998 := dc_n3 aL_law_1995
theorem aL_law_1999 : dc_at cL_law 1999 sL_law_1999 := dc_n1 aL_law_1998
theorem aL_law_2000 : dc_at cL_law 2000 sL_law_2000 := dc_n1 aL_law_1999
theorem aL_law_2002 : dc_at cL_law 2002 sL_law_2002 := dc_n2 aL_law_2000
theorem aL_law_2003 : dc_at cL_law 2003 sL_law_2003 := dc_n1 aL_law_2002
theorem aL_law_2004 : dc_at cL_law 2004 sL_law_2004 := dc_n1 aL_law_2003
theorem aL_law_2005 : dc_at cL_law 2005 sL_law_2005 := dc_n1 aL_law_2004
theorem aL_law_2006 : dc_at cL_law 2006 sL_law_2006 := dc_n1 aL_law_2005
theorem aL_law_2009 : dc_at cL_law 2009 sL_law_2009 := dc_n3 aL_law_2006
theorem aL_law_2011 : dc_at cL_law 2011 sL_law_2011 := dc_n2 aL_law_2009
theorem aL_law_2012 : dc_at cL_law 2012 sL_law_2012 := dc_n1 aL_law_2011
theorem aL_law_2013 : dc_at cL_law 2013 sL_law_2013 := dc_n1 aL_law_2012
theorem aL_law_2015 : dc_at cL_law 2015 sL_law_2015 := dc_n2 aL_law_2013
theorem aL_law_2016 : dc_at cL_law 2016 sL_law_2016 := dc_n1 aL_law_2015
theorem aL_law_2017 : dc_at cL_law 2017 sL_law_2017 := dc_n1 aL_law_2016
theorem aL_law_2018 : dc_at cL_law 2018 sL_law_2018 := dc_n1 aL_law_2017
theorem aL_law_2021 : dc_at cL_law 2021 sL_law_2021 := dc_n3 aL_law_2018
theorem aL_law_2023 : dc_at cL_law 2023 sL_law_2023 := dc_n2 aL_law_2021
theorem aL_law_2026 : dc_at cL_law 2026 sL_law_2026 := dc_n3 aL_law_2023
theorem aL_law_2027 : dc_at cL_law 2027 sL_law_2027 := dc_n1 aL_law_2026
theorem aL_law_2028 : dc_at cL_law 2028 sL_law_2028 := dc_n1 aL_law_2027
theorem aL_law_2030 : dc_at cL_law 2030 sL_law_2030 := dc_n2 aL_law_2028
theorem aL_law_2031 : dc_at cL_law 2031 sL_law_2031 := dc_n1 aL_law_2030
theorem aL_law_2032 : dc_at cL_law 2032 sL_law_2032 := dc_n1 aL_law_2031
theorem aL_law_2033 : dc_at cL_law 2033 sL_law_2033 := dc_n1 aL_law_2032
theorem aL_law_2034 : dc_at cL_law 2034 sL_law_2034 := dc_n1 aL_law_2033
theorem aL_law_2036 : dc_at cL_law 2036 sL_law_2036 := dc_n2 aL_law_2034
theorem aL_law_2037 : dc_at cL_law 2037 sL_law_2037 := dc_n1 aL_law_2036
theorem aL_law_2038 : dc_at cL_law 2038 sL_law_2038 := dc_n1 aL_law_2037
theorem aL_law_2039 : dc_at cL_law 2039 sL_law_2039 := dc_n1 aL_law_2038
theorem aL_law_2040 : dc_at cL_law 2040 sL_law_2040 := dc_n1 aL_law_2039
theorem aL_law_2043 : dc_at cL_law 2043 sL_law_2043 := dc_n3 aL_law_2040
theorem aL_law_2045 : dc_at cL_law 2045 sL_law_2045 := dc_n2 aL_law_2043
theorem aL_law_2046 : dc_at cL_law 2046 sL_law_2046 := dc_n1 aL_law_2045
theorem aL_law_2047 : dc_at cL_law 2047 sL_law_2047 := dc_n1 aL_law_2046
theorem aL_law_2049 : dc_at cL_law 2049 sL_law_2049 := dc_n2 aL_law_2047
theorem aL_law_2050 : dc_at cL_law 2050 sL_law_2050 := dc_n1 aL_law_2049
theorem aL_law_2051 : dc_at cL_law 2051 sL_law_2051 := dc_n1 aL_law_2050
theorem aL_law_2052 : dc_at cL_law 2052 sL_law_2052 := dc_n1 aL_law_2051
theorem aL_law_2053 : dc_at cL_law 2053 sL_law_2053 := dc_n1 aL_law_2052
theorem aL_law_2055 : dc_at cL_law 2055 sL_law_2055 := dc_n2 aL_law_2053
theorem aL_law_2056 : dc_at cL_law 2056 sL_law_2056 := dc_n1 aL_law_2055
theorem aL_law_2057 : dc_at cL_law 2057 sL_law_2057 := dc_n1 aL_law_2056
theorem aL_law_2058 : dc_at cL_law 2058 sL_law_2058 := dc_n1 aL_law_2057
theorem aL_law_2061 : dc_at cL_law 2061 sL_law_2061 := dc_n3 aL_law_2058
theorem aL_law_2063 : dc_at cL_law 2063 sL_law_2063 := dc_n2 aL_law_2061
theorem aL_law_2066 : dc_at cL_law 2066 sL_law_2066 := dc_n3 aL_law_2063
theorem aL_law_2069 : dc_at cL_law 2069 sL_law_2069 := dc_n3 aL_law_2066
theorem aL_law_2072 : dc_at cL_law 2072 sL_law_2072 := dc_n3 aL_law_2069
theorem aL_law_2073 : dc_at cL_law 2073 sL_law_2073 := dc_n1 aL_law_2072
theorem dL_law_0 : decode cL_law 0 = .ok (.new 8, 3) := dc_187 (a0 := 0) (b0 := 8) aL_law_0
theorem dL_law_3 : decode cL_law 3 = .ok (.dup, 1) := dc_89 aL_law_3
theorem dL_law_4 : decode cL_law 4 = .ok (.invokespecial 126, 3) := dc_183 (a0 := 0) (b0 := 126) aL_law_4
theorem dL_law_7 : decode cL_law 7 = .ok (.astore_n 1, 1) := dc_76 aL_law_7
theorem dL_law_8 : decode cL_law 8 = .ok (.new 127, 3) := dc_187 (a0 := 0) (b0 := 127) aL_law_8
theorem dL_law_11 : decode cL_law 11 = .ok (.dup, 1) := dc_89 aL_law_11
theorem dL_law_12 : decode cL_law 12 = .ok (.invokespecial 129, 3) := dc_183 (a0 := 0) (b0 := 129) aL_law_12
theorem dL_law_15 : decode cL_law 15 = .ok (.astore_n 2, 1) := dc_77 aL_law_15
theorem dL_law_16 : decode cL_law 16 = .ok (.iconst 1, 1) := dc_4 aL_law_16
theorem dL_law_17 : decode cL_law 17 = .ok (.newarray .long, 2) := dc_188_11 aL_law_17
theorem dL_law_19 : decode cL_law 19 = .ok (.astore_n 3, 1) := dc_78 aL_law_19
theorem dL_law_20 : decode cL_law 20 = .ok (.iconst 0, 1) := dc_3 aL_law_20
theorem dL_law_21 : decode cL_law 21 = .ok (.istore 4, 2) := dc_54 (a0 := 4) aL_law_21
theorem dL_law_23 : decode cL_law 23 = .ok (.iload 4, 2) := dc_21 (a0 := 4) aL_law_23
theorem dL_law_25 : decode cL_law 25 = .ok (.aload_n 0, 1) := dc_42 aL_law_25
theorem dL_law_26 : decode cL_law 26 = .ok (.arraylength, 1) := dc_190 aL_law_26
theorem dL_law_27 : decode cL_law 27 = .ok (.bipush 6, 2) := dc_16 (a0 := 6) aL_law_27 (by decide)
theorem dL_law_29 : decode cL_law 29 = .ok (.isub, 1) := dc_100 aL_law_29
theorem dL_law_30 : decode cL_law 30 = .ok (.if_icmp .gt 2042, 3) := dc_163 (a0 := 7) (b0 := 250) aL_law_30 (by decide)
theorem dL_law_33 : decode cL_law 33 = .ok (.aload_n 0, 1) := dc_42 aL_law_33
theorem dL_law_34 : decode cL_law 34 = .ok (.iload 4, 2) := dc_21 (a0 := 4) aL_law_34
theorem dL_law_36 : decode cL_law 36 = .ok (.iaload, 1) := dc_46 aL_law_36
theorem dL_law_37 : decode cL_law 37 = .ok (.bipush 63, 2) := dc_16 (a0 := 63) aL_law_37 (by decide)
theorem dL_law_39 : decode cL_law 39 = .ok (.iand, 1) := dc_126 aL_law_39
theorem dL_law_40 : decode cL_law 40 = .ok (.tableswitch 2026 0 39 #[176, 249, 277, 329, 342, 370, 422, 474, 538, 614, 642, 718, 782, 822, 874, 914, 966, 1030, 1094, 1146, 1186, 1247, 1275, 1303, 1316, 1329, 1405, 1469, 1521, 1561, 1641, 1681, 1733, 1785, 1825, 1838, 1866, 1918, 1958, 1986], 176) := by decide +kernel
theorem dL_law_216 : decode cL_law 216 = .ok (.aload_n 1, 1) := dc_43 aL_law_216
theorem dL_law_217 : decode cL_law 217 = .ok (.aload_n 0, 1) := dc_42 aL_law_217
theorem dL_law_218 : decode cL_law 218 = .ok (.iload 4, 2) := dc_21 (a0 := 4) aL_law_218
theorem dL_law_220 : decode cL_law 220 = .ok (.iconst 1, 1) := dc_4 aL_law_220
theorem dL_law_221 : decode cL_law 221 = .ok (.iadd, 1) := dc_96 aL_law_221
theorem dL_law_222 : decode cL_law 222 = .ok (.iaload, 1) := dc_46 aL_law_222
theorem dL_law_223 : decode cL_law 223 = .ok (.aload_n 0, 1) := dc_42 aL_law_223
theorem dL_law_224 : decode cL_law 224 = .ok (.iload 4, 2) := dc_21 (a0 := 4) aL_law_224
theorem dL_law_226 : decode cL_law 226 = .ok (.iconst 2, 1) := dc_5 aL_law_226
theorem dL_law_227 : decode cL_law 227 = .ok (.iadd, 1) := dc_96 aL_law_227
theorem dL_law_228 : decode cL_law 228 = .ok (.iaload, 1) := dc_46 aL_law_228
theorem dL_law_229 : decode cL_law 229 = .ok (.aload_n 0, 1) := dc_42 aL_law_229
theorem dL_law_230 : decode cL_law 230 = .ok (.iload 4, 2) := dc_21 (a0 := 4) aL_law_230
theorem dL_law_232 : decode cL_law 232 = .ok (.iconst 3, 1) := dc_6 aL_law_232
theorem dL_law_233 : decode cL_law 233 = .ok (.iadd, 1) := dc_96 aL_law_233
theorem dL_law_234 : decode cL_law 234 = .ok (.iaload, 1) := dc_46 aL_law_234
theorem dL_law_235 : decode cL_law 235 = .ok (.aload_n 0, 1) := dc_42 aL_law_235
theorem dL_law_236 : decode cL_law 236 = .ok (.iload 4, 2) := dc_21 (a0 := 4) aL_law_236
theorem dL_law_238 : decode cL_law 238 = .ok (.iconst 4, 1) := dc_7 aL_law_238
theorem dL_law_239 : decode cL_law 239 = .ok (.iadd, 1) := dc_96 aL_law_239
theorem dL_law_240 : decode cL_law 240 = .ok (.iaload, 1) := dc_46 aL_law_240
theorem dL_law_241 : decode cL_law 241 = .ok (.aload_n 0, 1) := dc_42 aL_law_241
theorem dL_law_242 : decode cL_law 242 = .ok (.iload 4, 2) := dc_21 (a0 := 4) aL_law_242
theorem dL_law_244 : decode cL_law 244 = .ok (.iconst 5, 1) := dc_8 aL_law_244
theorem dL_law_245 : decode cL_law 245 = .ok (.iadd, 1) := dc_96 aL_law_245
theorem dL_law_246 : decode cL_law 246 = .ok (.iaload, 1) := dc_46 aL_law_246
theorem dL_law_247 : decode cL_law 247 = .ok (.invokevirtual 130, 3) := dc_182 (a0 := 0) (b0 := 130) aL_law_247
theorem dL_law_250 : decode cL_law 250 = .ok (.pop, 1) := dc_87 aL_law_250
theorem dL_law_251 : decode cL_law 251 = .ok (.aload_n 2, 1) := dc_44 aL_law_251
theorem dL_law_252 : decode cL_law 252 = .ok (.aload_n 0, 1) := dc_42 aL_law_252
theorem dL_law_253 : decode cL_law 253 = .ok (.iload 4, 2) := dc_21 (a0 := 4) aL_law_253
theorem dL_law_255 : decode cL_law 255 = .ok (.iconst 1, 1) := dc_4 aL_law_255
theorem dL_law_256 : decode cL_law 256 = .ok (.iadd, 1) := dc_96 aL_law_256
theorem dL_law_257 : decode cL_law 257 = .ok (.iaload, 1) := dc_46 aL_law_257
theorem dL_law_258 : decode cL_law 258 = .ok (.aload_n 0, 1) := dc_42 aL_law_258
theorem dL_law_259 : decode cL_law 259 = .ok (.iload 4, 2) := dc_21 (a0 := 4) aL_law_259
theorem dL_law_261 : decode cL_law 261 = .ok (.iconst 2, 1) := dc_5 aL_law_261
theorem dL_law_262 : decode cL_law 262 = .ok (.iadd, 1) := dc_96 aL_law_262
theorem dL_law_263 : decode cL_law 263 = .ok (.iaload, 1) := dc_46 aL_law_263
theorem dL_law_264 : decode cL_law 264 = .ok (.aload_n 0, 1) := dc_42 aL_law_264
theorem dL_law_265 : decode cL_law 265 = .ok (.iload 4, 2) := dc_21 (a0 := 4) aL_law_265
theorem dL_law_267 : decode cL_law 267 = .ok (.iconst 3, 1) := dc_6 aL_law_267
theorem dL_law_268 : decode cL_law 268 = .ok (.iadd, 1) := dc_96 aL_law_268
theorem dL_law_269 : decode cL_law 269 = .ok (.iaload, 1) := dc_46 aL_law_269
theorem dL_law_270 : decode cL_law 270 = .ok (.aload_n 0, 1) := dc_42 aL_law_270
theorem dL_law_271 : decode cL_law 271 = .ok (.iload 4, 2) := dc_21 (a0 := 4) aL_law_271
theorem dL_law_273 : decode cL_law 273 = .ok (.iconst 4, 1) := dc_7 aL_law_273
theorem dL_law_274 : decode cL_law 274 = .ok (.iadd, 1) := dc_96 aL_law_274
theorem dL_law_275 : decode cL_law 275 = .ok (.iaload, 1) := dc_46 aL_law_275
theorem dL_law_276 : decode cL_law 276 = .ok (.aload_n 0, 1) := dc_42 aL_law_276
theorem dL_law_277 : decode cL_law 277 = .ok (.iload 4, 2) := dc_21 (a0 := 4) aL_law_277
theorem dL_law_279 : decode cL_law 279 = .ok (.iconst 5, 1) := dc_8 aL_law_279
theorem dL_law_280 : decode cL_law 280 = .ok (.iadd, 1) := dc_96 aL_law_280
theorem dL_law_281 : decode cL_law 281 = .ok (.iaload, 1) := dc_46 aL_law_281
theorem dL_law_282 : decode cL_law 282 = .ok (.invokevirtual 133, 3) := dc_182 (a0 := 0) (b0 := 133) aL_law_282
theorem dL_law_285 : decode cL_law 285 = .ok (.pop, 1) := dc_87 aL_law_285
theorem dL_law_286 : decode cL_law 286 = .ok (.goto 1780, 3) := dc_167 (a0 := 6) (b0 := 244) aL_law_286 (by decide)
theorem dL_law_289 : decode cL_law 289 = .ok (.aload_n 1, 1) := dc_43 aL_law_289
theorem dL_law_290 : decode cL_law 290 = .ok (.aload_n 0, 1) := dc_42 aL_law_290
theorem dL_law_291 : decode cL_law 291 = .ok (.iload 4, 2) := dc_21 (a0 := 4) aL_law_291
theorem dL_law_293 : decode cL_law 293 = .ok (.iconst 1, 1) := dc_4 aL_law_293
theorem dL_law_294 : decode cL_law 294 = .ok (.iadd, 1) := dc_96 aL_law_294
theorem dL_law_295 : decode cL_law 295 = .ok (.iaload, 1) := dc_46 aL_law_295
theorem dL_law_296 : decode cL_law 296 = .ok (.aload_n 3, 1) := dc_45 aL_law_296
theorem dL_law_297 : decode cL_law 297 = .ok (.invokestatic 134, 3) := dc_184 (a0 := 0) (b0 := 134) aL_law_297
theorem dL_law_300 : decode cL_law 300 = .ok (.istore 5, 2) := dc_54 (a0 := 5) aL_law_300
theorem dL_law_302 : decode cL_law 302 = .ok (.aload_n 2, 1) := dc_44 aL_law_302
theorem dL_law_303 : decode cL_law 303 = .ok (.aload_n 0, 1) := dc_42 aL_law_303
theorem dL_law_304 : decode cL_law 304 = .ok (.iload 4, 2) := dc_21 (a0 := 4) aL_law_304
theorem dL_law_306 : decode cL_law 306 = .ok (.iconst 1, 1) := dc_4 aL_law_306
theorem dL_law_307 : decode cL_law 307 = .ok (.iadd, 1) := dc_96 aL_law_307
theorem dL_law_308 : decode cL_law 308 = .ok (.iaload, 1) := dc_46 aL_law_308
theorem dL_law_309 : decode cL_law 309 = .ok (.invokevirtual 139, 3) := dc_182 (a0 := 0) (b0 := 139) aL_law_309
theorem dL_law_312 : decode cL_law 312 = .ok (.istore 6, 2) := dc_54 (a0 := 6) aL_law_312
theorem dL_law_314 : decode cL_law 314 = .ok (.goto 1752, 3) := dc_167 (a0 := 6) (b0 := 216) aL_law_314 (by decide)
theorem dL_law_317 : decode cL_law 317 = .ok (.aload_n 1, 1) := dc_43 aL_law_317
theorem dL_law_318 : decode cL_law 318 = .ok (.aload_n 0, 1) := dc_42 aL_law_318
theorem dL_law_319 : decode cL_law 319 = .ok (.iload 4, 2) := dc_21 (a0 := 4) aL_law_319
theorem dL_law_321 : decode cL_law 321 = .ok (.iconst 1, 1) := dc_4 aL_law_321
theorem dL_law_322 : decode cL_law 322 = .ok (.iadd, 1) := dc_96 aL_law_322
theorem dL_law_323 : decode cL_law 323 = .ok (.iaload, 1) := dc_46 aL_law_323
theorem dL_law_324 : decode cL_law 324 = .ok (.aload_n 0, 1) := dc_42 aL_law_324
theorem dL_law_325 : decode cL_law 325 = .ok (.iload 4, 2) := dc_21 (a0 := 4) aL_law_325
theorem dL_law_327 : decode cL_law 327 = .ok (.iconst 2, 1) := dc_5 aL_law_327
theorem dL_law_328 : decode cL_law 328 = .ok (.iadd, 1) := dc_96 aL_law_328
theorem dL_law_329 : decode cL_law 329 = .ok (.iaload, 1) := dc_46 aL_law_329
theorem dL_law_330 : decode cL_law 330 = .ok (.aload_n 0, 1) := dc_42 aL_law_330
theorem dL_law_331 : decode cL_law 331 = .ok (.iload 4, 2) := dc_21 (a0 := 4) aL_law_331
theorem dL_law_333 : decode cL_law 333 = .ok (.iconst 3, 1) := dc_6 aL_law_333
theorem dL_law_334 : decode cL_law 334 = .ok (.iadd, 1) := dc_96 aL_law_334
theorem dL_law_335 : decode cL_law 335 = .ok (.iaload, 1) := dc_46 aL_law_335
theorem dL_law_336 : decode cL_law 336 = .ok (.aload_n 3, 1) := dc_45 aL_law_336
theorem dL_law_337 : decode cL_law 337 = .ok (.invokestatic 140, 3) := dc_184 (a0 := 0) (b0 := 140) aL_law_337
theorem dL_law_340 : decode cL_law 340 = .ok (.istore 5, 2) := dc_54 (a0 := 5) aL_law_340
theorem dL_law_342 : decode cL_law 342 = .ok (.aload_n 2, 1) := dc_44 aL_law_342
theorem dL_law_343 : decode cL_law 343 = .ok (.aload_n 0, 1) := dc_42 aL_law_343
theorem dL_law_344 : decode cL_law 344 = .ok (.iload 4, 2) := dc_21 (a0 := 4) aL_law_344
theorem dL_law_346 : decode cL_law 346 = .ok (.iconst 1, 1) := dc_4 aL_law_346
theorem dL_law_347 : decode cL_law 347 = .ok (.iadd, 1) := dc_96 aL_law_347
theorem dL_law_348 : decode cL_law 348 = .ok (.iaload, 1) := dc_46 aL_law_348
theorem dL_law_349 : decode cL_law 349 = .ok (.aload_n 0, 1) := dc_42 aL_law_349
theorem dL_law_350 : decode cL_law 350 = .ok (.iload 4, 2) := dc_21 (a0 := 4) aL_law_350
theorem dL_law_352 : decode cL_law 352 = .ok (.iconst 2, 1) := dc_5 aL_law_352
theorem dL_law_353 : decode cL_law 353 = .ok (.iadd, 1) := dc_96 aL_law_353
theorem dL_law_354 : decode cL_law 354 = .ok (.iaload, 1) := dc_46 aL_law_354
theorem dL_law_355 : decode cL_law 355 = .ok (.aload_n 0, 1) := dc_42 aL_law_355
theorem dL_law_356 : decode cL_law 356 = .ok (.iload 4, 2) := dc_21 (a0 := 4) aL_law_356
theorem dL_law_358 : decode cL_law 358 = .ok (.iconst 3, 1) := dc_6 aL_law_358
theorem dL_law_359 : decode cL_law 359 = .ok (.iadd, 1) := dc_96 aL_law_359
theorem dL_law_360 : decode cL_law 360 = .ok (.iaload, 1) := dc_46 aL_law_360
theorem dL_law_361 : decode cL_law 361 = .ok (.invokevirtual 143, 3) := dc_182 (a0 := 0) (b0 := 143) aL_law_361
theorem dL_law_364 : decode cL_law 364 = .ok (.istore 6, 2) := dc_54 (a0 := 6) aL_law_364
theorem dL_law_366 : decode cL_law 366 = .ok (.goto 1700, 3) := dc_167 (a0 := 6) (b0 := 164) aL_law_366 (by decide)
theorem dL_law_369 : decode cL_law 369 = .ok (.aload_n 1, 1) := dc_43 aL_law_369
theorem dL_law_370 : decode cL_law 370 = .ok (.invokevirtual 144, 3) := dc_182 (a0 := 0) (b0 := 144) aL_law_370
theorem dL_law_373 : decode cL_law 373 = .ok (.pop, 1) := dc_87 aL_law_373
theorem dL_law_374 : decode cL_law 374 = .ok (.aload_n 2, 1) := dc_44 aL_law_374
theorem dL_law_375 : decode cL_law 375 = .ok (.invokevirtual 148, 3) := dc_182 (a0 := 0) (b0 := 148) aL_law_375
theorem dL_law_378 : decode cL_law 378 = .ok (.pop, 1) := dc_87 aL_law_378
theorem dL_law_379 : decode cL_law 379 = .ok (.goto 1687, 3) := dc_167 (a0 := 6) (b0 := 151) aL_law_379 (by decide)
theorem dL_law_382 : decode cL_law 382 = .ok (.aload_n 1, 1) := dc_43 aL_law_382
theorem dL_law_383 : decode cL_law 383 = .ok (.aload_n 0, 1) := dc_42 aL_law_383
theorem dL_law_384 : decode cL_law 384 = .ok (.iload 4, 2) := dc_21 (a0 := 4) aL_law_384
theorem dL_law_386 : decode cL_law 386 = .ok (.iconst 1, 1) := dc_4 aL_law_386
theorem dL_law_387 : decode cL_law 387 = .ok (.iadd, 1) := dc_96 aL_law_387
theorem dL_law_388 : decode cL_law 388 = .ok (.iaload, 1) := dc_46 aL_law_388
theorem dL_law_389 : decode cL_law 389 = .ok (.aload_n 3, 1) := dc_45 aL_law_389
theorem dL_law_390 : decode cL_law 390 = .ok (.invokestatic 149, 3) := dc_184 (a0 := 0) (b0 := 149) aL_law_390
theorem dL_law_393 : decode cL_law 393 = .ok (.istore 5, 2) := dc_54 (a0 := 5) aL_law_393
theorem dL_law_395 : decode cL_law 395 = .ok (.aload_n 2, 1) := dc_44 aL_law_395
theorem dL_law_396 : decode cL_law 396 = .ok (.aload_n 0, 1) := dc_42 aL_law_396
theorem dL_law_397 : decode cL_law 397 = .ok (.iload 4, 2) := dc_21 (a0 := 4) aL_law_397
theorem dL_law_399 : decode cL_law 399 = .ok (.iconst 1, 1) := dc_4 aL_law_399
theorem dL_law_400 : decode cL_law 400 = .ok (.iadd, 1) := dc_96 aL_law_400
theorem dL_law_401 : decode cL_law 401 = .ok (.iaload, 1) := dc_46 aL_law_401
theorem dL_law_402 : decode cL_law 402 = .ok (.invokevirtual 151, 3) := dc_182 (a0 := 0) (b0 := 151) aL_law_402
theorem dL_law_405 : decode cL_law 405 = .ok (.istore 6, 2) := dc_54 (a0 := 6) aL_law_405
theorem dL_law_407 : decode cL_law 407 = .ok (.goto 1659, 3) := dc_167 (a0 := 6) (b0 := 123) aL_law_407 (by decide)
theorem dL_law_410 : decode cL_law 410 = .ok (.aload_n 1, 1) := dc_43 aL_law_410
theorem dL_law_411 : decode cL_law 411 = .ok (.aload_n 0, 1) := dc_42 aL_law_411
theorem dL_law_412 : decode cL_law 412 = .ok (.iload 4, 2) := dc_21 (a0 := 4) aL_law_412
theorem dL_law_414 : decode cL_law 414 = .ok (.iconst 1, 1) := dc_4 aL_law_414
theorem dL_law_415 : decode cL_law 415 = .ok (.iadd, 1) := dc_96 aL_law_415
theorem dL_law_416 : decode cL_law 416 = .ok (.iaload, 1) := dc_46 aL_law_416
theorem dL_law_417 : decode cL_law 417 = .ok (.aload_n 0, 1) := dc_42 aL_law_417
theorem dL_law_418 : decode cL_law 418 = .ok (.iload 4, 2) := dc_21 (a0 := 4) aL_law_418
theorem dL_law_420 : decode cL_law 420 = .ok (.iconst 2, 1) := dc_5 aL_law_420
theorem dL_law_421 : decode cL_law 421 = .ok (.iadd, 1) := dc_96 aL_law_421
theorem dL_law_422 : decode cL_law 422 = .ok (.iaload, 1) := dc_46 aL_law_422
theorem dL_law_423 : decode cL_law 423 = .ok (.aload_n 0, 1) := dc_42 aL_law_423
theorem dL_law_424 : decode cL_law 424 = .ok (.iload 4, 2) := dc_21 (a0 := 4) aL_law_424
theorem dL_law_426 : decode cL_law 426 = .ok (.iconst 3, 1) := dc_6 aL_law_426
theorem dL_law_427 : decode cL_law 427 = .ok (.iadd, 1) := dc_96 aL_law_427
theorem dL_law_428 : decode cL_law 428 = .ok (.iaload, 1) := dc_46 aL_law_428
theorem dL_law_429 : decode cL_law 429 = .ok (.aload_n 3, 1) := dc_45 aL_law_429
theorem dL_law_430 : decode cL_law 430 = .ok (.invokestatic 152, 3) := dc_184 (a0 := 0) (b0 := 152) aL_law_430
theorem dL_law_433 : decode cL_law 433 = .ok (.istore 5, 2) := dc_54 (a0 := 5) aL_law_433
theorem dL_law_435 : decode cL_law 435 = .ok (.aload_n 2, 1) := dc_44 aL_law_435
theorem dL_law_436 : decode cL_law 436 = .ok (.aload_n 0, 1) := dc_42 aL_law_436
theorem dL_law_437 : decode cL_law 437 = .ok (.iload 4, 2) := dc_21 (a0 := 4) aL_law_437
theorem dL_law_439 : decode cL_law 439 = .ok (.iconst 1, 1) := dc_4 aL_law_439
theorem dL_law_440 : decode cL_law 440 = .ok (.iadd, 1) := dc_96 aL_law_440
theorem dL_law_441 : decode cL_law 441 = .ok (.iaload, 1) := dc_46 aL_law_441
theorem dL_law_442 : decode cL_law 442 = .ok (.aload_n 0, 1) := dc_42 aL_law_442
theorem dL_law_443 : decode cL_law 443 = .ok (.iload 4, 2) := dc_21 (a0 := 4) aL_law_443
theorem dL_law_445 : decode cL_law 445 = .ok (.iconst 2, 1) := dc_5 aL_law_445
theorem dL_law_446 : decode cL_law 446 = .ok (.iadd, 1) := dc_96 aL_law_446
theorem dL_law_447 : decode cL_law 447 = .ok (.iaload, 1) := dc_46 aL_law_447
theorem dL_law_448 : decode cL_law 448 = .ok (.aload_n 0, 1) := dc_42 aL_law_448
theorem dL_law_449 : decode cL_law 449 = .ok (.iload 4, 2) := dc_21 (a0 := 4) aL_law_449
theorem dL_law_451 : decode cL_law 451 = .ok (.iconst 3, 1) := dc_6 aL_law_451
theorem dL_law_452 : decode cL_law 452 = .ok (.iadd, 1) := dc_96 aL_law_452
theorem dL_law_453 : decode cL_law 453 = .ok (.iaload, 1) := dc_46 aL_law_453
theorem dL_law_454 : decode cL_law 454 = .ok (.invokevirtual 154, 3) := dc_182 (a0 := 0) (b0 := 154) aL_law_454
theorem dL_law_457 : decode cL_law 457 = .ok (.istore 6, 2) := dc_54 (a0 := 6) aL_law_457
theorem dL_law_459 : decode cL_law 459 = .ok (.goto 1607, 3) := dc_167 (a0 := 6) (b0 := 71) aL_law_459 (by decide)
theorem dL_law_462 : decode cL_law 462 = .ok (.aload_n 1, 1) := dc_43 aL_law_462
theorem dL_law_463 : decode cL_law 463 = .ok (.aload_n 0, 1) := dc_42 aL_law_463
theorem dL_law_464 : decode cL_law 464 = .ok (.iload 4, 2) := dc_21 (a0 := 4) aL_law_464
theorem dL_law_466 : decode cL_law 466 = .ok (.iconst 1, 1) := dc_4 aL_law_466
theorem dL_law_467 : decode cL_law 467 = .ok (.iadd, 1) := dc_96 aL_law_467
theorem dL_law_468 : decode cL_law 468 = .ok (.iaload, 1) := dc_46 aL_law_468
theorem dL_law_469 : decode cL_law 469 = .ok (.aload_n 0, 1) := dc_42 aL_law_469
theorem dL_law_470 : decode cL_law 470 = .ok (.iload 4, 2) := dc_21 (a0 := 4) aL_law_470
theorem dL_law_472 : decode cL_law 472 = .ok (.iconst 2, 1) := dc_5 aL_law_472
theorem dL_law_473 : decode cL_law 473 = .ok (.iadd, 1) := dc_96 aL_law_473
theorem dL_law_474 : decode cL_law 474 = .ok (.iaload, 1) := dc_46 aL_law_474
theorem dL_law_475 : decode cL_law 475 = .ok (.aload_n 0, 1) := dc_42 aL_law_475
theorem dL_law_476 : decode cL_law 476 = .ok (.iload 4, 2) := dc_21 (a0 := 4) aL_law_476
theorem dL_law_478 : decode cL_law 478 = .ok (.iconst 3, 1) := dc_6 aL_law_478
theorem dL_law_479 : decode cL_law 479 = .ok (.iadd, 1) := dc_96 aL_law_479
theorem dL_law_480 : decode cL_law 480 = .ok (.iaload, 1) := dc_46 aL_law_480
theorem dL_law_481 : decode cL_law 481 = .ok (.aload_n 3, 1) := dc_45 aL_law_481
theorem dL_law_482 : decode cL_law 482 = .ok (.invokestatic 155, 3) := dc_184 (a0 := 0) (b0 := 155) aL_law_482
theorem dL_law_485 : decode cL_law 485 = .ok (.istore 5, 2) := dc_54 (a0 := 5) aL_law_485
theorem dL_law_487 : decode cL_law 487 = .ok (.aload_n 2, 1) := dc_44 aL_law_487
theorem dL_law_488 : decode cL_law 488 = .ok (.aload_n 0, 1) := dc_42 aL_law_488
theorem dL_law_489 : decode cL_law 489 = .ok (.iload 4, 2) := dc_21 (a0 := 4) aL_law_489
theorem dL_law_491 : decode cL_law 491 = .ok (.iconst 1, 1) := dc_4 aL_law_491
theorem dL_law_492 : decode cL_law 492 = .ok (.iadd, 1) := dc_96 aL_law_492
theorem dL_law_493 : decode cL_law 493 = .ok (.iaload, 1) := dc_46 aL_law_493
theorem dL_law_494 : decode cL_law 494 = .ok (.aload_n 0, 1) := dc_42 aL_law_494
theorem dL_law_495 : decode cL_law 495 = .ok (.iload 4, 2) := dc_21 (a0 := 4) aL_law_495
theorem dL_law_497 : decode cL_law 497 = .ok (.iconst 2, 1) := dc_5 aL_law_497
theorem dL_law_498 : decode cL_law 498 = .ok (.iadd, 1) := dc_96 aL_law_498
theorem dL_law_499 : decode cL_law 499 = .ok (.iaload, 1) := dc_46 aL_law_499
theorem dL_law_500 : decode cL_law 500 = .ok (.aload_n 0, 1) := dc_42 aL_law_500
theorem dL_law_501 : decode cL_law 501 = .ok (.iload 4, 2) := dc_21 (a0 := 4) aL_law_501
theorem dL_law_503 : decode cL_law 503 = .ok (.iconst 3, 1) := dc_6 aL_law_503
theorem dL_law_504 : decode cL_law 504 = .ok (.iadd, 1) := dc_96 aL_law_504
theorem dL_law_505 : decode cL_law 505 = .ok (.iaload, 1) := dc_46 aL_law_505
theorem dL_law_506 : decode cL_law 506 = .ok (.invokevirtual 157, 3) := dc_182 (a0 := 0) (b0 := 157) aL_law_506
theorem dL_law_509 : decode cL_law 509 = .ok (.istore 6, 2) := dc_54 (a0 := 6) aL_law_509
theorem dL_law_511 : decode cL_law 511 = .ok (.goto 1555, 3) := dc_167 (a0 := 6) (b0 := 19) aL_law_511 (by decide)
theorem dL_law_514 : decode cL_law 514 = .ok (.aload_n 1, 1) := dc_43 aL_law_514
theorem dL_law_515 : decode cL_law 515 = .ok (.aload_n 0, 1) := dc_42 aL_law_515
theorem dL_law_516 : decode cL_law 516 = .ok (.iload 4, 2) := dc_21 (a0 := 4) aL_law_516
theorem dL_law_518 : decode cL_law 518 = .ok (.iconst 1, 1) := dc_4 aL_law_518
theorem dL_law_519 : decode cL_law 519 = .ok (.iadd, 1) := dc_96 aL_law_519
theorem dL_law_520 : decode cL_law 520 = .ok (.iaload, 1) := dc_46 aL_law_520
theorem dL_law_521 : decode cL_law 521 = .ok (.aload_n 0, 1) := dc_42 aL_law_521
theorem dL_law_522 : decode cL_law 522 = .ok (.iload 4, 2) := dc_21 (a0 := 4) aL_law_522
theorem dL_law_524 : decode cL_law 524 = .ok (.iconst 2, 1) := dc_5 aL_law_524
theorem dL_law_525 : decode cL_law 525 = .ok (.iadd, 1) := dc_96 aL_law_525
theorem dL_law_526 : decode cL_law 526 = .ok (.iaload, 1) := dc_46 aL_law_526
theorem dL_law_527 : decode cL_law 527 = .ok (.aload_n 0, 1) := dc_42 aL_law_527
theorem dL_law_528 : decode cL_law 528 = .ok (.iload 4, 2) := dc_21 (a0 := 4) aL_law_528
theorem dL_law_530 : decode cL_law 530 = .ok (.iconst 3, 1) := dc_6 aL_law_530
theorem dL_law_531 : decode cL_law 531 = .ok (.iadd, 1) := dc_96 aL_law_531
theorem dL_law_532 : decode cL_law 532 = .ok (.iaload, 1) := dc_46 aL_law_532
theorem dL_law_533 : decode cL_law 533 = .ok (.aload_n 0, 1) := dc_42 aL_law_533
theorem dL_law_534 : decode cL_law 534 = .ok (.iload 4, 2) := dc_21 (a0 := 4) aL_law_534
theorem dL_law_536 : decode cL_law 536 = .ok (.iconst 4, 1) := dc_7 aL_law_536
theorem dL_law_537 : decode cL_law 537 = .ok (.iadd, 1) := dc_96 aL_law_537
theorem dL_law_538 : decode cL_law 538 = .ok (.iaload, 1) := dc_46 aL_law_538
theorem dL_law_539 : decode cL_law 539 = .ok (.aload_n 3, 1) := dc_45 aL_law_539
theorem dL_law_540 : decode cL_law 540 = .ok (.invokestatic 158, 3) := dc_184 (a0 := 0) (b0 := 158) aL_law_540
theorem dL_law_543 : decode cL_law 543 = .ok (.istore 5, 2) := dc_54 (a0 := 5) aL_law_543
theorem dL_law_545 : decode cL_law 545 = .ok (.aload_n 2, 1) := dc_44 aL_law_545
theorem dL_law_546 : decode cL_law 546 = .ok (.aload_n 0, 1) := dc_42 aL_law_546
theorem dL_law_547 : decode cL_law 547 = .ok (.iload 4, 2) := dc_21 (a0 := 4) aL_law_547
theorem dL_law_549 : decode cL_law 549 = .ok (.iconst 1, 1) := dc_4 aL_law_549
theorem dL_law_550 : decode cL_law 550 = .ok (.iadd, 1) := dc_96 aL_law_550
theorem dL_law_551 : decode cL_law 551 = .ok (.iaload, 1) := dc_46 aL_law_551
theorem dL_law_552 : decode cL_law 552 = .ok (.aload_n 0, 1) := dc_42 aL_law_552
theorem dL_law_553 : decode cL_law 553 = .ok (.iload 4, 2) := dc_21 (a0 := 4) aL_law_553
theorem dL_law_555 : decode cL_law 555 = .ok (.iconst 2, 1) := dc_5 aL_law_555
theorem dL_law_556 : decode cL_law 556 = .ok (.iadd, 1) := dc_96 aL_law_556
theorem dL_law_557 : decode cL_law 557 = .ok (.iaload, 1) := dc_46 aL_law_557
theorem dL_law_558 : decode cL_law 558 = .ok (.aload_n 0, 1) := dc_42 aL_law_558
theorem dL_law_559 : decode cL_law 559 = .ok (.iload 4, 2) := dc_21 (a0 := 4) aL_law_559
theorem dL_law_561 : decode cL_law 561 = .ok (.iconst 3, 1) := dc_6 aL_law_561
theorem dL_law_562 : decode cL_law 562 = .ok (.iadd, 1) := dc_96 aL_law_562
theorem dL_law_563 : decode cL_law 563 = .ok (.iaload, 1) := dc_46 aL_law_563
theorem dL_law_564 : decode cL_law 564 = .ok (.aload_n 0, 1) := dc_42 aL_law_564
theorem dL_law_565 : decode cL_law 565 = .ok (.iload 4, 2) := dc_21 (a0 := 4) aL_law_565
theorem dL_law_567 : decode cL_law 567 = .ok (.iconst 4, 1) := dc_7 aL_law_567
theorem dL_law_568 : decode cL_law 568 = .ok (.iadd, 1) := dc_96 aL_law_568
theorem dL_law_569 : decode cL_law 569 = .ok (.iaload, 1) := dc_46 aL_law_569
theorem dL_law_570 : decode cL_law 570 = .ok (.invokevirtual 161, 3) := dc_182 (a0 := 0) (b0 := 161) aL_law_570
theorem dL_law_573 : decode cL_law 573 = .ok (.istore 6, 2) := dc_54 (a0 := 6) aL_law_573
theorem dL_law_575 : decode cL_law 575 = .ok (.goto 1491, 3) := dc_167 (a0 := 5) (b0 := 211) aL_law_575 (by decide)
theorem dL_law_578 : decode cL_law 578 = .ok (.aload_n 1, 1) := dc_43 aL_law_578
theorem dL_law_579 : decode cL_law 579 = .ok (.aload_n 0, 1) := dc_42 aL_law_579
theorem dL_law_580 : decode cL_law 580 = .ok (.iload 4, 2) := dc_21 (a0 := 4) aL_law_580
theorem dL_law_582 : decode cL_law 582 = .ok (.iconst 1, 1) := dc_4 aL_law_582
theorem dL_law_583 : decode cL_law 583 = .ok (.iadd, 1) := dc_96 aL_law_583
theorem dL_law_584 : decode cL_law 584 = .ok (.iaload, 1) := dc_46 aL_law_584
theorem dL_law_585 : decode cL_law 585 = .ok (.aload_n 0, 1) := dc_42 aL_law_585
theorem dL_law_586 : decode cL_law 586 = .ok (.iload 4, 2) := dc_21 (a0 := 4) aL_law_586
theorem dL_law_588 : decode cL_law 588 = .ok (.iconst 2, 1) := dc_5 aL_law_588
theorem dL_law_589 : decode cL_law 589 = .ok (.iadd, 1) := dc_96 aL_law_589
theorem dL_law_590 : decode cL_law 590 = .ok (.iaload, 1) := dc_46 aL_law_590
theorem dL_law_591 : decode cL_law 591 = .ok (.aload_n 0, 1) := dc_42 aL_law_591
theorem dL_law_592 : decode cL_law 592 = .ok (.iload 4, 2) := dc_21 (a0 := 4) aL_law_592
theorem dL_law_594 : decode cL_law 594 = .ok (.iconst 3, 1) := dc_6 aL_law_594
theorem dL_law_595 : decode cL_law 595 = .ok (.iadd, 1) := dc_96 aL_law_595
theorem dL_law_596 : decode cL_law 596 = .ok (.iaload, 1) := dc_46 aL_law_596
theorem dL_law_597 : decode cL_law 597 = .ok (.aload_n 0, 1) := dc_42 aL_law_597
theorem dL_law_598 : decode cL_law 598 = .ok (.iload 4, 2) := dc_21 (a0 := 4) aL_law_598
theorem dL_law_600 : decode cL_law 600 = .ok (.iconst 4, 1) := dc_7 aL_law_600
theorem dL_law_601 : decode cL_law 601 = .ok (.iadd, 1) := dc_96 aL_law_601
theorem dL_law_602 : decode cL_law 602 = .ok (.iaload, 1) := dc_46 aL_law_602
theorem dL_law_603 : decode cL_law 603 = .ok (.aload_n 0, 1) := dc_42 aL_law_603
theorem dL_law_604 : decode cL_law 604 = .ok (.iload 4, 2) := dc_21 (a0 := 4) aL_law_604
theorem dL_law_606 : decode cL_law 606 = .ok (.iconst 5, 1) := dc_8 aL_law_606
theorem dL_law_607 : decode cL_law 607 = .ok (.iadd, 1) := dc_96 aL_law_607
theorem dL_law_608 : decode cL_law 608 = .ok (.iaload, 1) := dc_46 aL_law_608
theorem dL_law_609 : decode cL_law 609 = .ok (.aload_n 3, 1) := dc_45 aL_law_609
theorem dL_law_610 : decode cL_law 610 = .ok (.invokestatic 162, 3) := dc_184 (a0 := 0) (b0 := 162) aL_law_610
theorem dL_law_613 : decode cL_law 613 = .ok (.istore 5, 2) := dc_54 (a0 := 5) aL_law_613
theorem dL_law_615 : decode cL_law 615 = .ok (.aload_n 2, 1) := dc_44 aL_law_615
theorem dL_law_616 : decode cL_law 616 = .ok (.aload_n 0, 1) := dc_42 aL_law_616
theorem dL_law_617 : decode cL_law 617 = .ok (.iload 4, 2) := dc_21 (a0 := 4) aL_law_617
theorem dL_law_619 : decode cL_law 619 = .ok (.iconst 1, 1) := dc_4 aL_law_619
theorem dL_law_620 : decode cL_law 620 = .ok (.iadd, 1) := dc_96 aL_law_620
theorem dL_law_621 : decode cL_law 621 = .ok (.iaload, 1) := dc_46 aL_law_621
theorem dL_law_622 : decode cL_law 622 = .ok (.aload_n 0, 1) := dc_42 aL_law_622
theorem dL_law_623 : decode cL_law 623 = .ok (.iload 4, 2) := dc_21 (a0 := 4) aL_law_623
theorem dL_law_625 : decode cL_law 625 = .ok (.iconst 2, 1) := dc_5 aL_law_625
theorem dL_law_626 : decode cL_law 626 = .ok (.iadd, 1) := dc_96 aL_law_626
theorem dL_law_627 : decode cL_law 627 = .ok (.iaload, 1) := dc_46 aL_law_627
theorem dL_law_628 : decode cL_law 628 = .ok (.aload_n 0, 1) := dc_42 aL_law_628
theorem dL_law_629 : decode cL_law 629 = .ok (.iload 4, 2) := dc_21 (a0 := 4) aL_law_629
theorem dL_law_631 : decode cL_law 631 = .ok (.iconst 3, 1) := dc_6 aL_law_631
theorem dL_law_632 : decode cL_law 632 = .ok (.iadd, 1) := dc_96 aL_law_632
theorem dL_law_633 : decode cL_law 633 = .ok (.iaload, 1) := dc_46 aL_law_633
theorem dL_law_634 : decode cL_law 634 = .ok (.aload_n 0, 1) := dc_42 aL_law_634
theorem dL_law_635 : decode cL_law 635 = .ok (.iload 4, 2) := dc_21 (a0 := 4) aL_law_635
theorem dL_law_637 : decode cL_law 637 = .ok (.iconst 4, 1) := dc_7 aL_law_637
theorem dL_law_638 : decode cL_law 638 = .ok (.iadd, 1) := dc_96 aL_law_638
theorem dL_law_639 : decode cL_law 639 = .ok (.iaload, 1) := dc_46 aL_law_639
theorem dL_law_640 : decode cL_law 640 = .ok (.aload_n 0, 1) := dc_42 aL_law_640
theorem dL_law_641 : decode cL_law 641 = .ok (.iload 4, 2) := dc_21 (a0 := 4) aL_law_641
theorem dL_law_643 : decode cL_law 643 = .ok (.iconst 5, 1) := dc_8 aL_law_643
theorem dL_law_644 : decode cL_law 644 = .ok (.iadd, 1) := dc_96 aL_law_644
theorem dL_law_645 : decode cL_law 645 = .ok (.iaload, 1) := dc_46 aL_law_645
theorem dL_law_646 : decode cL_law 646 = .ok (.invokevirtual 165, 3) := dc_182 (a0 := 0) (b0 := 165) aL_law_646
theorem dL_law_649 : decode cL_law 649 = .ok (.istore 6, 2) := dc_54 (a0 := 6) aL_law_649
theorem dL_law_651 : decode cL_law 651 = .ok (.goto 1415, 3) := dc_167 (a0 := 5) (b0 := 135) aL_law_651 (by decide)
theorem dL_law_654 : decode cL_law 654 = .ok (.aload_n 1, 1) := dc_43 aL_law_654
theorem dL_law_655 : decode cL_law 655 = .ok (.aload_n 0, 1) := dc_42 aL_law_655
theorem dL_law_656 : decode cL_law 656 = .ok (.iload 4, 2) := dc_21 (a0 := 4) aL_law_656
theorem dL_law_658 : decode cL_law 658 = .ok (.iconst 1, 1) := dc_4 aL_law_658
theorem dL_law_659 : decode cL_law 659 = .ok (.iadd, 1) := dc_96 aL_law_659
theorem dL_law_660 : decode cL_law 660 = .ok (.iaload, 1) := dc_46 aL_law_660
theorem dL_law_661 : decode cL_law 661 = .ok (.aload_n 3, 1) := dc_45 aL_law_661
theorem dL_law_662 : decode cL_law 662 = .ok (.invokestatic 166, 3) := dc_184 (a0 := 0) (b0 := 166) aL_law_662
theorem dL_law_665 : decode cL_law 665 = .ok (.istore 5, 2) := dc_54 (a0 := 5) aL_law_665
theorem dL_law_667 : decode cL_law 667 = .ok (.aload_n 2, 1) := dc_44 aL_law_667
theorem dL_law_668 : decode cL_law 668 = .ok (.aload_n 0, 1) := dc_42 aL_law_668
theorem dL_law_669 : decode cL_law 669 = .ok (.iload 4, 2) := dc_21 (a0 := 4) aL_law_669
theorem dL_law_671 : decode cL_law 671 = .ok (.iconst 1, 1) := dc_4 aL_law_671
theorem dL_law_672 : decode cL_law 672 = .ok (.iadd, 1) := dc_96 aL_law_672
theorem dL_law_673 : decode cL_law 673 = .ok (.iaload, 1) := dc_46 aL_law_673
theorem dL_law_674 : decode cL_law 674 = .ok (.invokevirtual 168, 3) := dc_182 (a0 := 0) (b0 := 168) aL_law_674
theorem dL_law_677 : decode cL_law 677 = .ok (.istore 6, 2) := dc_54 (a0 := 6) aL_law_677
theorem dL_law_679 : decode cL_law 679 = .ok (.goto 1387, 3) := dc_167 (a0 := 5) (b0 := 107) aL_law_679 (by decide)
theorem dL_law_682 : decode cL_law 682 = .ok (.aload_n 1, 1) := dc_43 aL_law_682
theorem dL_law_683 : decode cL_law 683 = .ok (.aload_n 0, 1) := dc_42 aL_law_683
theorem dL_law_684 : decode cL_law 684 = .ok (.iload 4, 2) := dc_21 (a0 := 4) aL_law_684
theorem dL_law_686 : decode cL_law 686 = .ok (.iconst 1, 1) := dc_4 aL_law_686
theorem dL_law_687 : decode cL_law 687 = .ok (.iadd, 1) := dc_96 aL_law_687
theorem dL_law_688 : decode cL_law 688 = .ok (.iaload, 1) := dc_46 aL_law_688
theorem dL_law_689 : decode cL_law 689 = .ok (.aload_n 0, 1) := dc_42 aL_law_689
theorem dL_law_690 : decode cL_law 690 = .ok (.iload 4, 2) := dc_21 (a0 := 4) aL_law_690
theorem dL_law_692 : decode cL_law 692 = .ok (.iconst 2, 1) := dc_5 aL_law_692
theorem dL_law_693 : decode cL_law 693 = .ok (.iadd, 1) := dc_96 aL_law_693
theorem dL_law_694 : decode cL_law 694 = .ok (.iaload, 1) := dc_46 aL_law_694
theorem dL_law_695 : decode cL_law 695 = .ok (.aload_n 0, 1) := dc_42 aL_law_695
theorem dL_law_696 : decode cL_law 696 = .ok (.iload 4, 2) := dc_21 (a0 := 4) aL_law_696
theorem dL_law_698 : decode cL_law 698 = .ok (.iconst 3, 1) := dc_6 aL_law_698
theorem dL_law_699 : decode cL_law 699 = .ok (.iadd, 1) := dc_96 aL_law_699
theorem dL_law_700 : decode cL_law 700 = .ok (.iaload, 1) := dc_46 aL_law_700
theorem dL_law_701 : decode cL_law 701 = .ok (.aload_n 0, 1) := dc_42 aL_law_701
theorem dL_law_702 : decode cL_law 702 = .ok (.iload 4, 2) := dc_21 (a0 := 4) aL_law_702
theorem dL_law_704 : decode cL_law 704 = .ok (.iconst 4, 1) := dc_7 aL_law_704
theorem dL_law_705 : decode cL_law 705 = .ok (.iadd, 1) := dc_96 aL_law_705
theorem dL_law_706 : decode cL_law 706 = .ok (.iaload, 1) := dc_46 aL_law_706
theorem dL_law_707 : decode cL_law 707 = .ok (.aload_n 0, 1) := dc_42 aL_law_707
theorem dL_law_708 : decode cL_law 708 = .ok (.iload 4, 2) := dc_21 (a0 := 4) aL_law_708
theorem dL_law_710 : decode cL_law 710 = .ok (.iconst 5, 1) := dc_8 aL_law_710
theorem dL_law_711 : decode cL_law 711 = .ok (.iadd, 1) := dc_96 aL_law_711
theorem dL_law_712 : decode cL_law 712 = .ok (.iaload, 1) := dc_46 aL_law_712
theorem dL_law_713 : decode cL_law 713 = .ok (.aload_n 3, 1) := dc_45 aL_law_713
theorem dL_law_714 : decode cL_law 714 = .ok (.invokestatic 169, 3) := dc_184 (a0 := 0) (b0 := 169) aL_law_714
theorem dL_law_717 : decode cL_law 717 = .ok (.istore 5, 2) := dc_54 (a0 := 5) aL_law_717
theorem dL_law_719 : decode cL_law 719 = .ok (.aload_n 2, 1) := dc_44 aL_law_719
theorem dL_law_720 : decode cL_law 720 = .ok (.aload_n 0, 1) := dc_42 aL_law_720
theorem dL_law_721 : decode cL_law 721 = .ok (.iload 4, 2) := dc_21 (a0 := 4) aL_law_721
theorem dL_law_723 : decode cL_law 723 = .ok (.iconst 1, 1) := dc_4 aL_law_723
theorem dL_law_724 : decode cL_law 724 = .ok (.iadd, 1) := dc_96 aL_law_724
theorem dL_law_725 : decode cL_law 725 = .ok (.iaload, 1) := dc_46 aL_law_725
theorem dL_law_726 : decode cL_law 726 = .ok (.aload_n 0, 1) := dc_42 aL_law_726
theorem dL_law_727 : decode cL_law 727 = .ok (.iload 4, 2) := dc_21 (a0 := 4) aL_law_727
theorem dL_law_729 : decode cL_law 729 = .ok (.iconst 2, 1) := dc_5 aL_law_729
theorem dL_law_730 : decode cL_law 730 = .ok (.iadd, 1) := dc_96 aL_law_730
theorem dL_law_731 : decode cL_law 731 = .ok (.iaload, 1) := dc_46 aL_law_731
theorem dL_law_732 : decode cL_law 732 = .ok (.aload_n 0, 1) := dc_42 aL_law_732
theorem dL_law_733 : decode cL_law 733 = .ok (.iload 4, 2) := dc_21 (a0 := 4) aL_law_733
theorem dL_law_735 : decode cL_law 735 = .ok (.iconst 3, 1) := dc_6 aL_law_735
theorem dL_law_736 : decode cL_law 736 = .ok (.iadd, 1) := dc_96 aL_law_736
theorem dL_law_737 : decode cL_law 737 = .ok (.iaload, 1) := dc_46 aL_law_737
theorem dL_law_738 : decode cL_law 738 = .ok (.aload_n 0, 1) := dc_42 aL_law_738
theorem dL_law_739 : decode cL_law 739 = .ok (.iload 4, 2) := dc_21 (a0 := 4) aL_law_739
theorem dL_law_741 : decode cL_law 741 = .ok (.iconst 4, 1) := dc_7 aL_law_741
theorem dL_law_742 : decode cL_law 742 = .ok (.iadd, 1) := dc_96 aL_law_742
theorem dL_law_743 : decode cL_law 743 = .ok (.iaload, 1) := dc_46 aL_law_743
theorem dL_law_744 : decode cL_law 744 = .ok (.aload_n 0, 1) := dc_42 aL_law_744
theorem dL_law_745 : decode cL_law 745 = .ok (.iload 4, 2) := dc_21 (a0 := 4) aL_law_745
theorem dL_law_747 : decode cL_law 747 = .ok (.iconst 5, 1) := dc_8 aL_law_747
theorem dL_law_748 : decode cL_law 748 = .ok (.iadd, 1) := dc_96 aL_law_748
theorem dL_law_749 : decode cL_law 749 = .ok (.iaload, 1) := dc_46 aL_law_749
theorem dL_law_750 : decode cL_law 750 = .ok (.invokevirtual 171, 3) := dc_182 (a0 := 0) (b0 := 171) aL_law_750
theorem dL_law_753 : decode cL_law 753 = .ok (.istore 6, 2) := dc_54 (a0 := 6) aL_law_753
theorem dL_law_755 : decode cL_law 755 = .ok (.goto 1311, 3) := dc_167 (a0 := 5) (b0 := 31) aL_law_755 (by decide)
theorem dL_law_758 : decode cL_law 758 = .ok (.aload_n 1, 1) := dc_43 aL_law_758
theorem dL_law_759 : decode cL_law 759 = .ok (.aload_n 0, 1) := dc_42 aL_law_759
theorem dL_law_760 : decode cL_law 760 = .ok (.iload 4, 2) := dc_21 (a0 := 4) aL_law_760
theorem dL_law_762 : decode cL_law 762 = .ok (.iconst 1, 1) := dc_4 aL_law_762
theorem dL_law_763 : decode cL_law 763 = .ok (.iadd, 1) := dc_96 aL_law_763
theorem dL_law_764 : decode cL_law 764 = .ok (.iaload, 1) := dc_46 aL_law_764
theorem dL_law_765 : decode cL_law 765 = .ok (.aload_n 0, 1) := dc_42 aL_law_765
theorem dL_law_766 : decode cL_law 766 = .ok (.iload 4, 2) := dc_21 (a0 := 4) aL_law_766
theorem dL_law_768 : decode cL_law 768 = .ok (.iconst 2, 1) := dc_5 aL_law_768
theorem dL_law_769 : decode cL_law 769 = .ok (.iadd, 1) := dc_96 aL_law_769
theorem dL_law_770 : decode cL_law 770 = .ok (.iaload, 1) := dc_46 aL_law_770
theorem dL_law_771 : decode cL_law 771 = .ok (.aload_n 0, 1) := dc_42 aL_law_771
theorem dL_law_772 : decode cL_law 772 = .ok (.iload 4, 2) := dc_21 (a0 := 4) aL_law_772
theorem dL_law_774 : decode cL_law 774 = .ok (.iconst 3, 1) := dc_6 aL_law_774
theorem dL_law_775 : decode cL_law 775 = .ok (.iadd, 1) := dc_96 aL_law_775
theorem dL_law_776 : decode cL_law 776 = .ok (.iaload, 1) := dc_46 aL_law_776
theorem dL_law_777 : decode cL_law 777 = .ok (.aload_n 0, 1) := dc_42 aL_law_777
theorem dL_law_778 : decode cL_law 778 = .ok (.iload 4, 2) := dc_21 (a0 := 4) aL_law_778
theorem dL_law_780 : decode cL_law 780 = .ok (.iconst 4, 1) := dc_7 aL_law_780
theorem dL_law_781 : decode cL_law 781 = .ok (.iadd, 1) := dc_96 aL_law_781
theorem dL_law_782 : decode cL_law 782 = .ok (.iaload, 1) := dc_46 aL_law_782
theorem dL_law_783 : decode cL_law 783 = .ok (.aload_n 3, 1) := dc_45 aL_law_783
theorem dL_law_784 : decode cL_law 784 = .ok (.invokestatic 172, 3) := dc_184 (a0 := 0) (b0 := 172) aL_law_784
theorem dL_law_787 : decode cL_law 787 = .ok (.istore 5, 2) := dc_54 (a0 := 5) aL_law_787
theorem dL_law_789 : decode cL_law 789 = .ok (.aload_n 2, 1) := dc_44 aL_law_789
theorem dL_law_790 : decode cL_law 790 = .ok (.aload_n 0, 1) := dc_42 aL_law_790
theorem dL_law_791 : decode cL_law 791 = .ok (.iload 4, 2) := dc_21 (a0 := 4) aL_law_791
theorem dL_law_793 : decode cL_law 793 = .ok (.iconst 1, 1) := dc_4 aL_law_793
theorem dL_law_794 : decode cL_law 794 = .ok (.iadd, 1) := dc_96 aL_law_794
theorem dL_law_795 : decode cL_law 795 = .ok (.iaload, 1) := dc_46 aL_law_795
theorem dL_law_796 : decode cL_law 796 = .ok (.aload_n 0, 1) := dc_42 aL_law_796
theorem dL_law_797 : decode cL_law 797 = .ok (.iload 4, 2) := dc_21 (a0 := 4) aL_law_797
theorem dL_law_799 : decode cL_law 799 = .ok (.iconst 2, 1) := dc_5 aL_law_799
theorem dL_law_800 : decode cL_law 800 = .ok (.iadd, 1) := dc_96 aL_law_800
theorem dL_law_801 : decode cL_law 801 = .ok (.iaload, 1) := dc_46 aL_law_801
theorem dL_law_802 : decode cL_law 802 = .ok (.aload_n 0, 1) := dc_42 aL_law_802
theorem dL_law_803 : decode cL_law 803 = .ok (.iload 4, 2) := dc_21 (a0 := 4) aL_law_803
theorem dL_law_805 : decode cL_law 805 = .ok (.iconst 3, 1) := dc_6 aL_law_805
theorem dL_law_806 : decode cL_law 806 = .ok (.iadd, 1) := dc_96 aL_law_806
theorem dL_law_807 : decode cL_law 807 = .ok (.iaload, 1) := dc_46 aL_law_807
theorem dL_law_808 : decode cL_law 808 = .ok (.aload_n 0, 1) := dc_42 aL_law_808
theorem dL_law_809 : decode cL_law 809 = .ok (.iload 4, 2) := dc_21 (a0 := 4) aL_law_809
theorem dL_law_811 : decode cL_law 811 = .ok (.iconst 4, 1) := dc_7 aL_law_811
theorem dL_law_812 : decode cL_law 812 = .ok (.iadd, 1) := dc_96 aL_law_812
theorem dL_law_813 : decode cL_law 813 = .ok (.iaload, 1) := dc_46 aL_law_813
theorem dL_law_814 : decode cL_law 814 = .ok (.invokevirtual 174, 3) := dc_182 (a0 := 0) (b0 := 174) aL_law_814
theorem dL_law_817 : decode cL_law 817 = .ok (.istore 6, 2) := dc_54 (a0 := 6) aL_law_817
theorem dL_law_819 : decode cL_law 819 = .ok (.goto 1247, 3) := dc_167 (a0 := 4) (b0 := 223) aL_law_819 (by decide)
theorem dL_law_822 : decode cL_law 822 = .ok (.aload_n 1, 1) := dc_43 aL_law_822
theorem dL_law_823 : decode cL_law 823 = .ok (.aload_n 0, 1) := dc_42 aL_law_823
theorem dL_law_824 : decode cL_law 824 = .ok (.iload 4, 2) := dc_21 (a0 := 4) aL_law_824
theorem dL_law_826 : decode cL_law 826 = .ok (.iconst 1, 1) := dc_4 aL_law_826
theorem dL_law_827 : decode cL_law 827 = .ok (.iadd, 1) := dc_96 aL_law_827
theorem dL_law_828 : decode cL_law 828 = .ok (.iaload, 1) := dc_46 aL_law_828
theorem dL_law_829 : decode cL_law 829 = .ok (.aload_n 0, 1) := dc_42 aL_law_829
theorem dL_law_830 : decode cL_law 830 = .ok (.iload 4, 2) := dc_21 (a0 := 4) aL_law_830
theorem dL_law_832 : decode cL_law 832 = .ok (.iconst 2, 1) := dc_5 aL_law_832
theorem dL_law_833 : decode cL_law 833 = .ok (.iadd, 1) := dc_96 aL_law_833
theorem dL_law_834 : decode cL_law 834 = .ok (.iaload, 1) := dc_46 aL_law_834
theorem dL_law_835 : decode cL_law 835 = .ok (.aload_n 3, 1) := dc_45 aL_law_835
theorem dL_law_836 : decode cL_law 836 = .ok (.invokestatic 175, 3) := dc_184 (a0 := 0) (b0 := 175) aL_law_836
theorem dL_law_839 : decode cL_law 839 = .ok (.istore 5, 2) := dc_54 (a0 := 5) aL_law_839
theorem dL_law_841 : decode cL_law 841 = .ok (.aload_n 2, 1) := dc_44 aL_law_841
theorem dL_law_842 : decode cL_law 842 = .ok (.aload_n 0, 1) := dc_42 aL_law_842
theorem dL_law_843 : decode cL_law 843 = .ok (.iload 4, 2) := dc_21 (a0 := 4) aL_law_843
theorem dL_law_845 : decode cL_law 845 = .ok (.iconst 1, 1) := dc_4 aL_law_845
theorem dL_law_846 : decode cL_law 846 = .ok (.iadd, 1) := dc_96 aL_law_846
theorem dL_law_847 : decode cL_law 847 = .ok (.iaload, 1) := dc_46 aL_law_847
theorem dL_law_848 : decode cL_law 848 = .ok (.aload_n 0, 1) := dc_42 aL_law_848
theorem dL_law_849 : decode cL_law 849 = .ok (.iload 4, 2) := dc_21 (a0 := 4) aL_law_849
theorem dL_law_851 : decode cL_law 851 = .ok (.iconst 2, 1) := dc_5 aL_law_851
theorem dL_law_852 : decode cL_law 852 = .ok (.iadd, 1) := dc_96 aL_law_852
theorem dL_law_853 : decode cL_law 853 = .ok (.iaload, 1) := dc_46 aL_law_853
theorem dL_law_854 : decode cL_law 854 = .ok (.invokevirtual 178, 3) := dc_182 (a0 := 0) (b0 := 178) aL_law_854
theorem dL_law_857 : decode cL_law 857 = .ok (.istore 6, 2) := dc_54 (a0 := 6) aL_law_857
theorem dL_law_859 : decode cL_law 859 = .ok (.goto 1207, 3) := dc_167 (a0 := 4) (b0 := 183) aL_law_859 (by decide)
theorem dL_law_862 : decode cL_law 862 = .ok (.aload_n 1, 1) := dc_43 aL_law_862
theorem dL_law_863 : decode cL_law 863 = .ok (.aload_n 0, 1) := dc_42 aL_law_863
theorem dL_law_864 : decode cL_law 864 = .ok (.iload 4, 2) := dc_21 (a0 := 4) aL_law_864
theorem dL_law_866 : decode cL_law 866 = .ok (.iconst 1, 1) := dc_4 aL_law_866
theorem dL_law_867 : decode cL_law 867 = .ok (.iadd, 1) := dc_96 aL_law_867
theorem dL_law_868 : decode cL_law 868 = .ok (.iaload, 1) := dc_46 aL_law_868
theorem dL_law_869 : decode cL_law 869 = .ok (.aload_n 0, 1) := dc_42 aL_law_869
theorem dL_law_870 : decode cL_law 870 = .ok (.iload 4, 2) := dc_21 (a0 := 4) aL_law_870
theorem dL_law_872 : decode cL_law 872 = .ok (.iconst 2, 1) := dc_5 aL_law_872
theorem dL_law_873 : decode cL_law 873 = .ok (.iadd, 1) := dc_96 aL_law_873
theorem dL_law_874 : decode cL_law 874 = .ok (.iaload, 1) := dc_46 aL_law_874
theorem dL_law_875 : decode cL_law 875 = .ok (.aload_n 0, 1) := dc_42 aL_law_875
theorem dL_law_876 : decode cL_law 876 = .ok (.iload 4, 2) := dc_21 (a0 := 4) aL_law_876
theorem dL_law_878 : decode cL_law 878 = .ok (.iconst 3, 1) := dc_6 aL_law_878
theorem dL_law_879 : decode cL_law 879 = .ok (.iadd, 1) := dc_96 aL_law_879
theorem dL_law_880 : decode cL_law 880 = .ok (.iaload, 1) := dc_46 aL_law_880
theorem dL_law_881 : decode cL_law 881 = .ok (.aload_n 3, 1) := dc_45 aL_law_881
theorem dL_law_882 : decode cL_law 882 = .ok (.invokestatic 179, 3) := dc_184 (a0 := 0) (b0 := 179) aL_law_882
theorem dL_law_885 : decode cL_law 885 = .ok (.istore 5, 2) := dc_54 (a0 := 5) aL_law_885
theorem dL_law_887 : decode cL_law 887 = .ok (.aload_n 2, 1) := dc_44 aL_law_887
theorem dL_law_888 : decode cL_law 888 = .ok (.aload_n 0, 1) := dc_42 aL_law_888
theorem dL_law_889 : decode cL_law 889 = .ok (.iload 4, 2) := dc_21 (a0 := 4) aL_law_889
theorem dL_law_891 : decode cL_law 891 = .ok (.iconst 1, 1) := dc_4 aL_law_891
theorem dL_law_892 : decode cL_law 892 = .ok (.iadd, 1) := dc_96 aL_law_892
theorem dL_law_893 : decode cL_law 893 = .ok (.iaload, 1) := dc_46 aL_law_893
theorem dL_law_894 : decode cL_law 894 = .ok (.aload_n 0, 1) := dc_42 aL_law_894
theorem dL_law_895 : decode cL_law 895 = .ok (.iload 4, 2) := dc_21 (a0 := 4) aL_law_895
theorem dL_law_897 : decode cL_law 897 = .ok (.iconst 2, 1) := dc_5 aL_law_897
theorem dL_law_898 : decode cL_law 898 = .ok (.iadd, 1) := dc_96 aL_law_898
theorem dL_law_899 : decode cL_law 899 = .ok (.iaload, 1) := dc_46 aL_law_899
theorem dL_law_900 : decode cL_law 900 = .ok (.aload_n 0, 1) := dc_42 aL_law_900
theorem dL_law_901 : decode cL_law 901 = .ok (.iload 4, 2) := dc_21 (a0 := 4) aL_law_901
theorem dL_law_903 : decode cL_law 903 = .ok (.iconst 3, 1) := dc_6 aL_law_903
theorem dL_law_904 : decode cL_law 904 = .ok (.iadd, 1) := dc_96 aL_law_904
theorem dL_law_905 : decode cL_law 905 = .ok (.iaload, 1) := dc_46 aL_law_905
theorem dL_law_906 : decode cL_law 906 = .ok (.invokevirtual 181, 3) := dc_182 (a0 := 0) (b0 := 181) aL_law_906
theorem dL_law_909 : decode cL_law 909 = .ok (.istore 6, 2) := dc_54 (a0 := 6) aL_law_909
theorem dL_law_911 : decode cL_law 911 = .ok (.goto 1155, 3) := dc_167 (a0 := 4) (b0 := 131) aL_law_911 (by decide)
theorem dL_law_914 : decode cL_law 914 = .ok (.aload_n 1, 1) := dc_43 aL_law_914
theorem dL_law_915 : decode cL_law 915 = .ok (.aload_n 0, 1) := dc_42 aL_law_915
theorem dL_law_916 : decode cL_law 916 = .ok (.iload 4, 2) := dc_21 (a0 := 4) aL_law_916
theorem dL_law_918 : decode cL_law 918 = .ok (.iconst 1, 1) := dc_4 aL_law_918
theorem dL_law_919 : decode cL_law 919 = .ok (.iadd, 1) := dc_96 aL_law_919
theorem dL_law_920 : decode cL_law 920 = .ok (.iaload, 1) := dc_46 aL_law_920
theorem dL_law_921 : decode cL_law 921 = .ok (.aload_n 0, 1) := dc_42 aL_law_921
theorem dL_law_922 : decode cL_law 922 = .ok (.iload 4, 2) := dc_21 (a0 := 4) aL_law_922
theorem dL_law_924 : decode cL_law 924 = .ok (.iconst 2, 1) := dc_5 aL_law_924
theorem dL_law_925 : decode cL_law 925 = .ok (.iadd, 1) := dc_96 aL_law_925
theorem dL_law_926 : decode cL_law 926 = .ok (.iaload, 1) := dc_46 aL_law_926
theorem dL_law_927 : decode cL_law 927 = .ok (.aload_n 3, 1) := dc_45 aL_law_927
theorem dL_law_928 : decode cL_law 928 = .ok (.invokestatic 182, 3) := dc_184 (a0 := 0) (b0 := 182) aL_law_928
theorem dL_law_931 : decode cL_law 931 = .ok (.istore 5, 2) := dc_54 (a0 := 5) aL_law_931
theorem dL_law_933 : decode cL_law 933 = .ok (.aload_n 2, 1) := dc_44 aL_law_933
theorem dL_law_934 : decode cL_law 934 = .ok (.aload_n 0, 1) := dc_42 aL_law_934
theorem dL_law_935 : decode cL_law 935 = .ok (.iload 4, 2) := dc_21 (a0 := 4) aL_law_935
theorem dL_law_937 : decode cL_law 937 = .ok (.iconst 1, 1) := dc_4 aL_law_937
theorem dL_law_938 : decode cL_law 938 = .ok (.iadd, 1) := dc_96 aL_law_938
theorem dL_law_939 : decode cL_law 939 = .ok (.iaload, 1) := dc_46 aL_law_939
theorem dL_law_940 : decode cL_law 940 = .ok (.aload_n 0, 1) := dc_42 aL_law_940
theorem dL_law_941 : decode cL_law 941 = .ok (.iload 4, 2) := dc_21 (a0 := 4) aL_law_941
theorem dL_law_943 : decode cL_law 943 = .ok (.iconst 2, 1) := dc_5 aL_law_943
theorem dL_law_944 : decode cL_law 944 = .ok (.iadd, 1) := dc_96 aL_law_944
theorem dL_law_945 : decode cL_law 945 = .ok (.iaload, 1) := dc_46 aL_law_945
theorem dL_law_946 : decode cL_law 946 = .ok (.invokevirtual 184, 3) := dc_182 (a0 := 0) (b0 := 184) aL_law_946
theorem dL_law_949 : decode cL_law 949 = .ok (.istore 6, 2) := dc_54 (a0 := 6) aL_law_949
theorem dL_law_951 : decode cL_law 951 = .ok (.goto 1115, 3) := dc_167 (a0 := 4) (b0 := 91) aL_law_951 (by decide)
theorem dL_law_954 : decode cL_law 954 = .ok (.aload_n 1, 1) := dc_43 aL_law_954
theorem dL_law_955 : decode cL_law 955 = .ok (.aload_n 0, 1) := dc_42 aL_law_955
theorem dL_law_956 : decode cL_law 956 = .ok (.iload 4, 2) := dc_21 (a0 := 4) aL_law_956
theorem dL_law_958 : decode cL_law 958 = .ok (.iconst 1, 1) := dc_4 aL_law_958
theorem dL_law_959 : decode cL_law 959 = .ok (.iadd, 1) := dc_96 aL_law_959
theorem dL_law_960 : decode cL_law 960 = .ok (.iaload, 1) := dc_46 aL_law_960
theorem dL_law_961 : decode cL_law 961 = .ok (.aload_n 0, 1) := dc_42 aL_law_961
theorem dL_law_962 : decode cL_law 962 = .ok (.iload 4, 2) := dc_21 (a0 := 4) aL_law_962
theorem dL_law_964 : decode cL_law 964 = .ok (.iconst 2, 1) := dc_5 aL_law_964
theorem dL_law_965 : decode cL_law 965 = .ok (.iadd, 1) := dc_96 aL_law_965
theorem dL_law_966 : decode cL_law 966 = .ok (.iaload, 1) := dc_46 aL_law_966
theorem dL_law_967 : decode cL_law 967 = .ok (.aload_n 0, 1) := dc_42 aL_law_967
theorem dL_law_968 : decode cL_law 968 = .ok (.iload 4, 2) := dc_21 (a0 := 4) aL_law_968
theorem dL_law_970 : decode cL_law 970 = .ok (.iconst 3, 1) := dc_6 aL_law_970
theorem dL_law_971 : decode cL_law 971 = .ok (.iadd, 1) := dc_96 aL_law_971
theorem dL_law_972 : decode cL_law 972 = .ok (.iaload, 1) := dc_46 aL_law_972
theorem dL_law_973 : decode cL_law 973 = .ok (.aload_n 3, 1) := dc_45 aL_law_973
theorem dL_law_974 : decode cL_law 974 = .ok (.invokestatic 185, 3) := dc_184 (a0 := 0) (b0 := 185) aL_law_974
theorem dL_law_977 : decode cL_law 977 = .ok (.istore 5, 2) := dc_54 (a0 := 5) aL_law_977
theorem dL_law_979 : decode cL_law 979 = .ok (.aload_n 2, 1) := dc_44 aL_law_979
theorem dL_law_980 : decode cL_law 980 = .ok (.aload_n 0, 1) := dc_42 aL_law_980
theorem dL_law_981 : decode cL_law 981 = .ok (.iload 4, 2) := dc_21 (a0 := 4) aL_law_981
theorem dL_law_983 : decode cL_law 983 = .ok (.iconst 1, 1) := dc_4 aL_law_983
theorem dL_law_984 : decode cL_law 984 = .ok (.iadd, 1) := dc_96 aL_law_984
theorem dL_law_985 : decode cL_law 985 = .ok (.iaload, 1) := dc_46 aL_law_985
theorem dL_law_986 : decode cL_law 986 = .ok (.aload_n 0, 1) := dc_42 aL_law_986
theorem dL_law_987 : decode cL_law 987 = .ok (.iload 4, 2) := dc_21 (a0 := 4) aL_law_987
theorem dL_law_989 : decode cL_law 989 = .ok (.iconst 2, 1) := dc_5 aL_law_989
theorem dL_law_990 : decode cL_law 990 = .ok (.iadd, 1) := dc_96 aL_law_990
theorem dL_law_991 : decode cL_law 991 = .ok (.iaload, 1) := dc_46 aL_law_991
theorem dL_law_992 : decode cL_law 992 = .ok (.aload_n 0, 1) := dc_42 aL_law_992
theorem dL_law_993 : decode cL_law 993 = .ok (.iload 4, 2) := dc_21 (a0 := 4) aL_law_993
theorem dL_law_995 : decode cL_law 995 = .ok (.iconst 3, 1) := dc_6 aL_law_995
theorem dL_law_996 : decode cL_law 996 = .ok (.iadd, 1) := dc_96 aL_law_996
theorem dL_law_997 : decode cL_law 997 = .ok (.iaload, 1) := dc_46 aL_law_997
theorem dL_law_998 : decode cL_law 998 = .ok (.invokevirtual 187, 3) := dc_182 (a0 := 0) (b0 := 187) aL_law_998
theorem dL_law_1001 : decode cL_law 1001 = .ok (.istore 6, 2) := dc_54 (a0 := 6) aL_law_1001
theorem dL_law_1003 : decode cL_law 1003 = .ok (.goto 1063, 3) := dc_167 (a0 := 4) (b0 := 39) aL_law_1003 (by decide)
theorem dL_law_1006 : decode cL_law 1006 = .ok (.aload_n 1, 1) := dc_43 aL_law_1006
theorem dL_law_1007 : decode cL_law 1007 = .ok (.aload_n 0, 1) := dc_42 aL_law_1007
theorem dL_law_1008 : decode cL_law 1008 = .ok (.iload 4, 2) := dc_21 (a0 := 4) aL_law_1008
theorem dL_law_1010 : decode cL_law 1010 = .ok (.iconst 1, 1) := dc_4 aL_law_1010
theorem dL_law_1011 : decode cL_law 1011 = .ok (.iadd, 1) := dc_96 aL_law_1011
theorem dL_law_1012 : decode cL_law 1012 = .ok (.iaload, 1) := dc_46 aL_law_1012
theorem dL_law_1013 : decode cL_law 1013 = .ok (.aload_n 0, 1) := dc_42 aL_law_1013
theorem dL_law_1014 : decode cL_law 1014 = .ok (.iload 4, 2) := dc_21 (a0 := 4) aL_law_1014
theorem dL_law_1016 : decode cL_law 1016 = .ok (.iconst 2, 1) := dc_5 aL_law_1016
theorem dL_law_1017 : decode cL_law 1017 = .ok (.iadd, 1) := dc_96 aL_law_1017
theorem dL_law_1018 : decode cL_law 1018 = .ok (.iaload, 1) := dc_46 aL_law_1018
theorem dL_law_1019 : decode cL_law 1019 = .ok (.aload_n 0, 1) := dc_42 aL_law_1019
theorem dL_law_1020 : decode cL_law 1020 = .ok (.iload 4, 2) := dc_21 (a0 := 4) aL_law_1020
theorem dL_law_1022 : decode cL_law 1022 = .ok (.iconst 3, 1) := dc_6 aL_law_1022
theorem dL_law_1023 : decode cL_law 1023 = .ok (.iadd, 1) := dc_96 aL_law_1023
theorem dL_law_1024 : decode cL_law 1024 = .ok (.iaload, 1) := dc_46 aL_law_1024
theorem dL_law_1025 : decode cL_law 1025 = .ok (.aload_n 0, 1) := dc_42 aL_law_1025
theorem dL_law_1026 : decode cL_law 1026 = .ok (.iload 4, 2) := dc_21 (a0 := 4) aL_law_1026
theorem dL_law_1028 : decode cL_law 1028 = .ok (.iconst 4, 1) := dc_7 aL_law_1028
theorem dL_law_1029 : decode cL_law 1029 = .ok (.iadd, 1) := dc_96 aL_law_1029
theorem dL_law_1030 : decode cL_law 1030 = .ok (.iaload, 1) := dc_46 aL_law_1030
theorem dL_law_1031 : decode cL_law 1031 = .ok (.aload_n 3, 1) := dc_45 aL_law_1031
theorem dL_law_1032 : decode cL_law 1032 = .ok (.invokestatic 188, 3) := dc_184 (a0 := 0) (b0 := 188) aL_law_1032
theorem dL_law_1035 : decode cL_law 1035 = .ok (.istore 5, 2) := dc_54 (a0 := 5) aL_law_1035
theorem dL_law_1037 : decode cL_law 1037 = .ok (.aload_n 2, 1) := dc_44 aL_law_1037
theorem dL_law_1038 : decode cL_law 1038 = .ok (.aload_n 0, 1) := dc_42 aL_law_1038
theorem dL_law_1039 : decode cL_law 1039 = .ok (.iload 4, 2) := dc_21 (a0 := 4) aL_law_1039
theorem dL_law_1041 : decode cL_law 1041 = .ok (.iconst 1, 1) := dc_4 aL_law_1041
theorem dL_law_1042 : decode cL_law 1042 = .ok (.iadd, 1) := dc_96 aL_law_1042
theorem dL_law_1043 : decode cL_law 1043 = .ok (.iaload, 1) := dc_46 aL_law_1043
theorem dL_law_1044 : decode cL_law 1044 = .ok (.aload_n 0, 1) := dc_42 aL_law_1044
theorem dL_law_1045 : decode cL_law 1045 = .ok (.iload 4, 2) := dc_21 (a0 := 4) aL_law_1045
theorem dL_law_1047 : decode cL_law 1047 = .ok (.iconst 2, 1) := dc_5 aL_law_1047
theorem dL_law_1048 : decode cL_law 1048 = .ok (.iadd, 1) := dc_96 aL_law_1048
theorem dL_law_1049 : decode cL_law 1049 = .ok (.iaload, 1) := dc_46 aL_law_1049
theorem dL_law_1050 : decode cL_law 1050 = .ok (.aload_n 0, 1) := dc_42 aL_law_1050
theorem dL_law_1051 : decode cL_law 1051 = .ok (.iload 4, 2) := dc_21 (a0 := 4) aL_law_1051
theorem dL_law_1053 : decode cL_law 1053 = .ok (.iconst 3, 1) := dc_6 aL_law_1053
theorem dL_law_1054 : decode cL_law 1054 = .ok (.iadd, 1) := dc_96 aL_law_1054
theorem dL_law_1055 : decode cL_law 1055 = .ok (.iaload, 1) := dc_46 aL_law_1055
theorem dL_law_1056 : decode cL_law 1056 = .ok (.aload_n 0, 1) := dc_42 aL_law_1056
theorem dL_law_1057 : decode cL_law 1057 = .ok (.iload 4, 2) := dc_21 (a0 := 4) aL_law_1057
theorem dL_law_1059 : decode cL_law 1059 = .ok (.iconst 4, 1) := dc_7 aL_law_1059
theorem dL_law_1060 : decode cL_law 1060 = .ok (.iadd, 1) := dc_96 aL_law_1060
theorem dL_law_1061 : decode cL_law 1061 = .ok (.iaload, 1) := dc_46 aL_law_1061
theorem dL_law_1062 : decode cL_law 1062 = .ok (.invokevirtual 190, 3) := dc_182 (a0 := 0) (b0 := 190) aL_law_1062
theorem dL_law_1065 : decode cL_law 1065 = .ok (.istore 6, 2) := dc_54 (a0 := 6) aL_law_1065
theorem dL_law_1067 : decode cL_law 1067 = .ok (.goto 999, 3) := dc_167 (a0 := 3) (b0 := 231) aL_law_1067 (by decide)
theorem dL_law_1070 : decode cL_law 1070 = .ok (.aload_n 1, 1) := dc_43 aL_law_1070
theorem dL_law_1071 : decode cL_law 1071 = .ok (.aload_n 0, 1) := dc_42 aL_law_1071
theorem dL_law_1072 : decode cL_law 1072 = .ok (.iload 4, 2) := dc_21 (a0 := 4) aL_law_1072
theorem dL_law_1074 : decode cL_law 1074 = .ok (.iconst 1, 1) := dc_4 aL_law_1074
theorem dL_law_1075 : decode cL_law 1075 = .ok (.iadd, 1) := dc_96 aL_law_1075
theorem dL_law_1076 : decode cL_law 1076 = .ok (.iaload, 1) := dc_46 aL_law_1076
theorem dL_law_1077 : decode cL_law 1077 = .ok (.aload_n 0, 1) := dc_42 aL_law_1077
theorem dL_law_1078 : decode cL_law 1078 = .ok (.iload 4, 2) := dc_21 (a0 := 4) aL_law_1078
theorem dL_law_1080 : decode cL_law 1080 = .ok (.iconst 2, 1) := dc_5 aL_law_1080
theorem dL_law_1081 : decode cL_law 1081 = .ok (.iadd, 1) := dc_96 aL_law_1081
theorem dL_law_1082 : decode cL_law 1082 = .ok (.iaload, 1) := dc_46 aL_law_1082
theorem dL_law_1083 : decode cL_law 1083 = .ok (.aload_n 0, 1) := dc_42 aL_law_1083
theorem dL_law_1084 : decode cL_law 1084 = .ok (.iload 4, 2) := dc_21 (a0 := 4) aL_law_1084
theorem dL_law_1086 : decode cL_law 1086 = .ok (.iconst 3, 1) := dc_6 aL_law_1086
theorem dL_law_1087 : decode cL_law 1087 = .ok (.iadd, 1) := dc_96 aL_law_1087
theorem dL_law_1088 : decode cL_law 1088 = .ok (.iaload, 1) := dc_46 aL_law_1088
theorem dL_law_1089 : decode cL_law 1089 = .ok (.aload_n 0, 1) := dc_42 aL_law_1089
theorem dL_law_1090 : decode cL_law 1090 = .ok (.iload 4, 2) := dc_21 (a0 := 4) aL_law_1090
theorem dL_law_1092 : decode cL_law 1092 = .ok (.iconst 4, 1) := dc_7 aL_law_1092
theorem dL_law_1093 : decode cL_law 1093 = .ok (.iadd, 1) := dc_96 aL_law_1093
theorem dL_law_1094 : decode cL_law 1094 = .ok (.iaload, 1) := dc_46 aL_law_1094
theorem dL_law_1095 : decode cL_law 1095 = .ok (.aload_n 3, 1) := dc_45 aL_law_1095
theorem dL_law_1096 : decode cL_law 1096 = .ok (.invokestatic 191, 3) := dc_184 (a0 := 0) (b0 := 191) aL_law_1096
theorem dL_law_1099 : decode cL_law 1099 = .ok (.istore 5, 2) := dc_54 (a0 := 5) aL_law_1099
theorem dL_law_1101 : decode cL_law 1101 = .ok (.aload_n 2, 1) := dc_44 aL_law_1101
theorem dL_law_1102 : decode cL_law 1102 = .ok (.aload_n 0, 1) := dc_42 aL_law_1102
theorem dL_law_1103 : decode cL_law 1103 = .ok (.iload 4, 2) := dc_21 (a0 := 4) aL_law_1103
theorem dL_law_1105 : decode cL_law 1105 = .ok (.iconst 1, 1) := dc_4 aL_law_1105
theorem dL_law_1106 : decode cL_law 1106 = .ok (.iadd, 1) := dc_96 aL_law_1106
theorem dL_law_1107 : decode cL_law 1107 = .ok (.iaload, 1) := dc_46 aL_law_1107
theorem dL_law_1108 : decode cL_law 1108 = .ok (.aload_n 0, 1) := dc_42 aL_law_1108
theorem dL_law_1109 : decode cL_law 1109 = .ok (.iload 4, 2) := dc_21 (a0 := 4) aL_law_1109
theorem dL_law_1111 : decode cL_law 1111 = .ok (.iconst 2, 1) := dc_5 aL_law_1111
theorem dL_law_1112 : decode cL_law 1112 = .ok (.iadd, 1) := dc_96 aL_law_1112
theorem dL_law_1113 : decode cL_law 1113 = .ok (.iaload, 1) := dc_46 aL_law_1113
theorem dL_law_1114 : decode cL_law 1114 = .ok (.aload_n 0, 1) := dc_42 aL_law_1114
theorem dL_law_1115 : decode cL_law 1115 = .ok (.iload 4, 2) := dc_21 (a0 := 4) aL_law_1115
theorem dL_law_1117 : decode cL_law 1117 = .ok (.iconst 3, 1) := dc_6 aL_law_1117
theorem dL_law_1118 : decode cL_law 1118 = .ok (.iadd, 1) := dc_96 aL_law_1118
theorem dL_law_1119 : decode cL_law 1119 = .ok (.iaload, 1) := dc_46 aL_law_1119
theorem dL_law_1120 : decode cL_law 1120 = .ok (.aload_n 0, 1) := dc_42 aL_law_1120
theorem dL_law_1121 : decode cL_law 1121 = .ok (.iload 4, 2) := dc_21 (a0 := 4) aL_law_1121
theorem dL_law_1123 : decode cL_law 1123 = .ok (.iconst 4, 1) := dc_7 aL_law_1123
theorem dL_law_1124 : decode cL_law 1124 = .ok (.iadd, 1) := dc_96 aL_law_1124
theorem dL_law_1125 : decode cL_law 1125 = .ok (.iaload, 1) := dc_46 aL_law_1125
theorem dL_law_1126 : decode cL_law 1126 = .ok (.invokevirtual 193, 3) := dc_182 (a0 := 0) (b0 := 193) aL_law_1126
theorem dL_law_1129 : decode cL_law 1129 = .ok (.istore 6, 2) := dc_54 (a0 := 6) aL_law_1129
theorem dL_law_1131 : decode cL_law 1131 = .ok (.goto 935, 3) := dc_167 (a0 := 3) (b0 := 167) aL_law_1131 (by decide)
theorem dL_law_1134 : decode cL_law 1134 = .ok (.aload_n 1, 1) := dc_43 aL_law_1134
theorem dL_law_1135 : decode cL_law 1135 = .ok (.aload_n 0, 1) := dc_42 aL_law_1135
theorem dL_law_1136 : decode cL_law 1136 = .ok (.iload 4, 2) := dc_21 (a0 := 4) aL_law_1136
theorem dL_law_1138 : decode cL_law 1138 = .ok (.iconst 1, 1) := dc_4 aL_law_1138
theorem dL_law_1139 : decode cL_law 1139 = .ok (.iadd, 1) := dc_96 aL_law_1139
theorem dL_law_1140 : decode cL_law 1140 = .ok (.iaload, 1) := dc_46 aL_law_1140
theorem dL_law_1141 : decode cL_law 1141 = .ok (.aload_n 0, 1) := dc_42 aL_law_1141
theorem dL_law_1142 : decode cL_law 1142 = .ok (.iload 4, 2) := dc_21 (a0 := 4) aL_law_1142
theorem dL_law_1144 : decode cL_law 1144 = .ok (.iconst 2, 1) := dc_5 aL_law_1144
theorem dL_law_1145 : decode cL_law 1145 = .ok (.iadd, 1) := dc_96 aL_law_1145
theorem dL_law_1146 : decode cL_law 1146 = .ok (.iaload, 1) := dc_46 aL_law_1146
theorem dL_law_1147 : decode cL_law 1147 = .ok (.aload_n 0, 1) := dc_42 aL_law_1147
theorem dL_law_1148 : decode cL_law 1148 = .ok (.iload 4, 2) := dc_21 (a0 := 4) aL_law_1148
theorem dL_law_1150 : decode cL_law 1150 = .ok (.iconst 3, 1) := dc_6 aL_law_1150
theorem dL_law_1151 : decode cL_law 1151 = .ok (.iadd, 1) := dc_96 aL_law_1151
theorem dL_law_1152 : decode cL_law 1152 = .ok (.iaload, 1) := dc_46 aL_law_1152
theorem dL_law_1153 : decode cL_law 1153 = .ok (.aload_n 3, 1) := dc_45 aL_law_1153
theorem dL_law_1154 : decode cL_law 1154 = .ok (.invokestatic 194, 3) := dc_184 (a0 := 0) (b0 := 194) aL_law_1154
theorem dL_law_1157 : decode cL_law 1157 = .ok (.istore 5, 2) := dc_54 (a0 := 5) aL_law_1157
theorem dL_law_1159 : decode cL_law 1159 = .ok (.aload_n 2, 1) := dc_44 aL_law_1159
theorem dL_law_1160 : decode cL_law 1160 = .ok (.aload_n 0, 1) := dc_42 aL_law_1160
theorem dL_law_1161 : decode cL_law 1161 = .ok (.iload 4, 2) := dc_21 (a0 := 4) aL_law_1161
theorem dL_law_1163 : decode cL_law 1163 = .ok (.iconst 1, 1) := dc_4 aL_law_1163
theorem dL_law_1164 : decode cL_law 1164 = .ok (.iadd, 1) := dc_96 aL_law_1164
theorem dL_law_1165 : decode cL_law 1165 = .ok (.iaload, 1) := dc_46 aL_law_1165
theorem dL_law_1166 : decode cL_law 1166 = .ok (.aload_n 0, 1) := dc_42 aL_law_1166
theorem dL_law_1167 : decode cL_law 1167 = .ok (.iload 4, 2) := dc_21 (a0 := 4) aL_law_1167
theorem dL_law_1169 : decode cL_law 1169 = .ok (.iconst 2, 1) := dc_5 aL_law_1169
theorem dL_law_1170 : decode cL_law 1170 = .ok (.iadd, 1) := dc_96 aL_law_1170
theorem dL_law_1171 : decode cL_law 1171 = .ok (.iaload, 1) := dc_46 aL_law_1171
theorem dL_law_1172 : decode cL_law 1172 = .ok (.aload_n 0, 1) := dc_42 aL_law_1172
theorem dL_law_1173 : decode cL_law 1173 = .ok (.iload 4, 2) := dc_21 (a0 := 4) aL_law_1173
theorem dL_law_1175 : decode cL_law 1175 = .ok (.iconst 3, 1) := dc_6 aL_law_1175
theorem dL_law_1176 : decode cL_law 1176 = .ok (.iadd, 1) := dc_96 aL_law_1176
theorem dL_law_1177 : decode cL_law 1177 = .ok (.iaload, 1) := dc_46 aL_law_1177
theorem dL_law_1178 : decode cL_law 1178 = .ok (.invokevirtual 196, 3) := dc_182 (a0 := 0) (b0 := 196) aL_law_1178
theorem dL_law_1181 : decode cL_law 1181 = .ok (.istore 6, 2) := dc_54 (a0 := 6) aL_law_1181
theorem dL_law_1183 : decode cL_law 1183 = .ok (.goto 883, 3) := dc_167 (a0 := 3) (b0 := 115) aL_law_1183 (by decide)
theorem dL_law_1186 : decode cL_law 1186 = .ok (.aload_n 1, 1) := dc_43 aL_law_1186
theorem dL_law_1187 : decode cL_law 1187 = .ok (.aload_n 0, 1) := dc_42 aL_law_1187
theorem dL_law_1188 : decode cL_law 1188 = .ok (.iload 4, 2) := dc_21 (a0 := 4) aL_law_1188
theorem dL_law_1190 : decode cL_law 1190 = .ok (.iconst 1, 1) := dc_4 aL_law_1190
theorem dL_law_1191 : decode cL_law 1191 = .ok (.iadd, 1) := dc_96 aL_law_1191
theorem dL_law_1192 : decode cL_law 1192 = .ok (.iaload, 1) := dc_46 aL_law_1192
theorem dL_law_1193 : decode cL_law 1193 = .ok (.aload_n 0, 1) := dc_42 aL_law_1193
theorem dL_law_1194 : decode cL_law 1194 = .ok (.iload 4, 2) := dc_21 (a0 := 4) aL_law_1194
theorem dL_law_1196 : decode cL_law 1196 = .ok (.iconst 2, 1) := dc_5 aL_law_1196
theorem dL_law_1197 : decode cL_law 1197 = .ok (.iadd, 1) := dc_96 aL_law_1197
theorem dL_law_1198 : decode cL_law 1198 = .ok (.iaload, 1) := dc_46 aL_law_1198
theorem dL_law_1199 : decode cL_law 1199 = .ok (.aload_n 3, 1) := dc_45 aL_law_1199
theorem dL_law_1200 : decode cL_law 1200 = .ok (.invokestatic 197, 3) := dc_184 (a0 := 0) (b0 := 197) aL_law_1200
theorem dL_law_1203 : decode cL_law 1203 = .ok (.istore 5, 2) := dc_54 (a0 := 5) aL_law_1203
theorem dL_law_1205 : decode cL_law 1205 = .ok (.aload_n 2, 1) := dc_44 aL_law_1205
theorem dL_law_1206 : decode cL_law 1206 = .ok (.aload_n 0, 1) := dc_42 aL_law_1206
theorem dL_law_1207 : decode cL_law 1207 = .ok (.iload 4, 2) := dc_21 (a0 := 4) aL_law_1207
theorem dL_law_1209 : decode cL_law 1209 = .ok (.iconst 1, 1) := dc_4 aL_law_1209
theorem dL_law_1210 : decode cL_law 1210 = .ok (.iadd, 1) := dc_96 aL_law_1210
theorem dL_law_1211 : decode cL_law 1211 = .ok (.iaload, 1) := dc_46 aL_law_1211
theorem dL_law_1212 : decode cL_law 1212 = .ok (.aload_n 0, 1) := dc_42 aL_law_1212
theorem dL_law_1213 : decode cL_law 1213 = .ok (.iload 4, 2) := dc_21 (a0 := 4) aL_law_1213
theorem dL_law_1215 : decode cL_law 1215 = .ok (.iconst 2, 1) := dc_5 aL_law_1215
theorem dL_law_1216 : decode cL_law 1216 = .ok (.iadd, 1) := dc_96 aL_law_1216
theorem dL_law_1217 : decode cL_law 1217 = .ok (.iaload, 1) := dc_46 aL_law_1217
theorem dL_law_1218 : decode cL_law 1218 = .ok (.invokevirtual 199, 3) := dc_182 (a0 := 0) (b0 := 199) aL_law_1218
theorem dL_law_1221 : decode cL_law 1221 = .ok (.istore 6, 2) := dc_54 (a0 := 6) aL_law_1221
theorem dL_law_1223 : decode cL_law 1223 = .ok (.goto 843, 3) := dc_167 (a0 := 3) (b0 := 75) aL_law_1223 (by decide)
theorem dL_law_1226 : decode cL_law 1226 = .ok (.aload_n 1, 1) := dc_43 aL_law_1226
theorem dL_law_1227 : decode cL_law 1227 = .ok (.aload_n 0, 1) := dc_42 aL_law_1227
theorem dL_law_1228 : decode cL_law 1228 = .ok (.iload 4, 2) := dc_21 (a0 := 4) aL_law_1228
theorem dL_law_1230 : decode cL_law 1230 = .ok (.iconst 1, 1) := dc_4 aL_law_1230
theorem dL_law_1231 : decode cL_law 1231 = .ok (.iadd, 1) := dc_96 aL_law_1231
theorem dL_law_1232 : decode cL_law 1232 = .ok (.iaload, 1) := dc_46 aL_law_1232
theorem dL_law_1233 : decode cL_law 1233 = .ok (.aload_n 0, 1) := dc_42 aL_law_1233
theorem dL_law_1234 : decode cL_law 1234 = .ok (.iload 4, 2) := dc_21 (a0 := 4) aL_law_1234
theorem dL_law_1236 : decode cL_law 1236 = .ok (.iconst 2, 1) := dc_5 aL_law_1236
theorem dL_law_1237 : decode cL_law 1237 = .ok (.iadd, 1) := dc_96 aL_law_1237
theorem dL_law_1238 : decode cL_law 1238 = .ok (.iaload, 1) := dc_46 aL_law_1238
theorem dL_law_1239 : decode cL_law 1239 = .ok (.aload_n 0, 1) := dc_42 aL_law_1239
theorem dL_law_1240 : decode cL_law 1240 = .ok (.iload 4, 2) := dc_21 (a0 := 4) aL_law_1240
theorem dL_law_1242 : decode cL_law 1242 = .ok (.iconst 3, 1) := dc_6 aL_law_1242
theorem dL_law_1243 : decode cL_law 1243 = .ok (.iadd, 1) := dc_96 aL_law_1243
theorem dL_law_1244 : decode cL_law 1244 = .ok (.iaload, 1) := dc_46 aL_law_1244
theorem dL_law_1245 : decode cL_law 1245 = .ok (.aload_n 0, 1) := dc_42 aL_law_1245
theorem dL_law_1246 : decode cL_law 1246 = .ok (.iload 4, 2) := dc_21 (a0 := 4) aL_law_1246
theorem dL_law_1248 : decode cL_law 1248 = .ok (.iconst 4, 1) := dc_7 aL_law_1248
theorem dL_law_1249 : decode cL_law 1249 = .ok (.iadd, 1) := dc_96 aL_law_1249
theorem dL_law_1250 : decode cL_law 1250 = .ok (.iaload, 1) := dc_46 aL_law_1250
theorem dL_law_1251 : decode cL_law 1251 = .ok (.invokestatic 200, 3) := dc_184 (a0 := 0) (b0 := 200) aL_law_1251
theorem dL_law_1254 : decode cL_law 1254 = .ok (.istore 5, 2) := dc_54 (a0 := 5) aL_law_1254
theorem dL_law_1256 : decode cL_law 1256 = .ok (.aload_n 2, 1) := dc_44 aL_law_1256
theorem dL_law_1257 : decode cL_law 1257 = .ok (.aload_n 0, 1) := dc_42 aL_law_1257
theorem dL_law_1258 : decode cL_law 1258 = .ok (.iload 4, 2) := dc_21 (a0 := 4) aL_law_1258
theorem dL_law_1260 : decode cL_law 1260 = .ok (.iconst 1, 1) := dc_4 aL_law_1260
theorem dL_law_1261 : decode cL_law 1261 = .ok (.iadd, 1) := dc_96 aL_law_1261
theorem dL_law_1262 : decode cL_law 1262 = .ok (.iaload, 1) := dc_46 aL_law_1262
theorem dL_law_1263 : decode cL_law 1263 = .ok (.aload_n 0, 1) := dc_42 aL_law_1263
theorem dL_law_1264 : decode cL_law 1264 = .ok (.iload 4, 2) := dc_21 (a0 := 4) aL_law_1264
theorem dL_law_1266 : decode cL_law 1266 = .ok (.iconst 2, 1) := dc_5 aL_law_1266
theorem dL_law_1267 : decode cL_law 1267 = .ok (.iadd, 1) := dc_96 aL_law_1267
theorem dL_law_1268 : decode cL_law 1268 = .ok (.iaload, 1) := dc_46 aL_law_1268
theorem dL_law_1269 : decode cL_law 1269 = .ok (.aload_n 0, 1) := dc_42 aL_law_1269
theorem dL_law_1270 : decode cL_law 1270 = .ok (.iload 4, 2) := dc_21 (a0 := 4) aL_law_1270
theorem dL_law_1272 : decode cL_law 1272 = .ok (.iconst 3, 1) := dc_6 aL_law_1272
theorem dL_law_1273 : decode cL_law 1273 = .ok (.iadd, 1) := dc_96 aL_law_1273
theorem dL_law_1274 : decode cL_law 1274 = .ok (.iaload, 1) := dc_46 aL_law_1274
theorem dL_law_1275 : decode cL_law 1275 = .ok (.aload_n 0, 1) := dc_42 aL_law_1275
theorem dL_law_1276 : decode cL_law 1276 = .ok (.iload 4, 2) := dc_21 (a0 := 4) aL_law_1276
theorem dL_law_1278 : decode cL_law 1278 = .ok (.iconst 4, 1) := dc_7 aL_law_1278
theorem dL_law_1279 : decode cL_law 1279 = .ok (.iadd, 1) := dc_96 aL_law_1279
theorem dL_law_1280 : decode cL_law 1280 = .ok (.iaload, 1) := dc_46 aL_law_1280
theorem dL_law_1281 : decode cL_law 1281 = .ok (.invokevirtual 203, 3) := dc_182 (a0 := 0) (b0 := 203) aL_law_1281
theorem dL_law_1284 : decode cL_law 1284 = .ok (.goto 782, 3) := dc_167 (a0 := 3) (b0 := 14) aL_law_1284 (by decide)
theorem dL_law_1287 : decode cL_law 1287 = .ok (.aload_n 1, 1) := dc_43 aL_law_1287
theorem dL_law_1288 : decode cL_law 1288 = .ok (.aload_n 0, 1) := dc_42 aL_law_1288
theorem dL_law_1289 : decode cL_law 1289 = .ok (.iload 4, 2) := dc_21 (a0 := 4) aL_law_1289
theorem dL_law_1291 : decode cL_law 1291 = .ok (.iconst 1, 1) := dc_4 aL_law_1291
theorem dL_law_1292 : decode cL_law 1292 = .ok (.iadd, 1) := dc_96 aL_law_1292
theorem dL_law_1293 : decode cL_law 1293 = .ok (.iaload, 1) := dc_46 aL_law_1293
theorem dL_law_1294 : decode cL_law 1294 = .ok (.aload_n 3, 1) := dc_45 aL_law_1294
theorem dL_law_1295 : decode cL_law 1295 = .ok (.invokestatic 204, 3) := dc_184 (a0 := 0) (b0 := 204) aL_law_1295
theorem dL_law_1298 : decode cL_law 1298 = .ok (.istore 5, 2) := dc_54 (a0 := 5) aL_law_1298
theorem dL_law_1300 : decode cL_law 1300 = .ok (.aload_n 2, 1) := dc_44 aL_law_1300
theorem dL_law_1301 : decode cL_law 1301 = .ok (.aload_n 0, 1) := dc_42 aL_law_1301
theorem dL_law_1302 : decode cL_law 1302 = .ok (.iload 4, 2) := dc_21 (a0 := 4) aL_law_1302
theorem dL_law_1304 : decode cL_law 1304 = .ok (.iconst 1, 1) := dc_4 aL_law_1304
theorem dL_law_1305 : decode cL_law 1305 = .ok (.iadd, 1) := dc_96 aL_law_1305
theorem dL_law_1306 : decode cL_law 1306 = .ok (.iaload, 1) := dc_46 aL_law_1306
theorem dL_law_1307 : decode cL_law 1307 = .ok (.invokevirtual 206, 3) := dc_182 (a0 := 0) (b0 := 206) aL_law_1307
theorem dL_law_1310 : decode cL_law 1310 = .ok (.istore 6, 2) := dc_54 (a0 := 6) aL_law_1310
theorem dL_law_1312 : decode cL_law 1312 = .ok (.goto 754, 3) := dc_167 (a0 := 2) (b0 := 242) aL_law_1312 (by decide)
theorem dL_law_1315 : decode cL_law 1315 = .ok (.aload_n 1, 1) := dc_43 aL_law_1315
theorem dL_law_1316 : decode cL_law 1316 = .ok (.aload_n 0, 1) := dc_42 aL_law_1316
theorem dL_law_1317 : decode cL_law 1317 = .ok (.iload 4, 2) := dc_21 (a0 := 4) aL_law_1317
theorem dL_law_1319 : decode cL_law 1319 = .ok (.iconst 1, 1) := dc_4 aL_law_1319
theorem dL_law_1320 : decode cL_law 1320 = .ok (.iadd, 1) := dc_96 aL_law_1320
theorem dL_law_1321 : decode cL_law 1321 = .ok (.iaload, 1) := dc_46 aL_law_1321
theorem dL_law_1322 : decode cL_law 1322 = .ok (.aload_n 3, 1) := dc_45 aL_law_1322
theorem dL_law_1323 : decode cL_law 1323 = .ok (.invokestatic 207, 3) := dc_184 (a0 := 0) (b0 := 207) aL_law_1323
theorem dL_law_1326 : decode cL_law 1326 = .ok (.istore 5, 2) := dc_54 (a0 := 5) aL_law_1326
theorem dL_law_1328 : decode cL_law 1328 = .ok (.aload_n 2, 1) := dc_44 aL_law_1328
theorem dL_law_1329 : decode cL_law 1329 = .ok (.aload_n 0, 1) := dc_42 aL_law_1329
theorem dL_law_1330 : decode cL_law 1330 = .ok (.iload 4, 2) := dc_21 (a0 := 4) aL_law_1330
theorem dL_law_1332 : decode cL_law 1332 = .ok (.iconst 1, 1) := dc_4 aL_law_1332
theorem dL_law_1333 : decode cL_law 1333 = .ok (.iadd, 1) := dc_96 aL_law_1333
theorem dL_law_1334 : decode cL_law 1334 = .ok (.iaload, 1) := dc_46 aL_law_1334
theorem dL_law_1335 : decode cL_law 1335 = .ok (.invokevirtual 209, 3) := dc_182 (a0 := 0) (b0 := 209) aL_law_1335
theorem dL_law_1338 : decode cL_law 1338 = .ok (.istore 6, 2) := dc_54 (a0 := 6) aL_law_1338
theorem dL_law_1340 : decode cL_law 1340 = .ok (.goto 726, 3) := dc_167 (a0 := 2) (b0 := 214) aL_law_1340 (by decide)
theorem dL_law_1343 : decode cL_law 1343 = .ok (.aload_n 1, 1) := dc_43 aL_law_1343
theorem dL_law_1344 : decode cL_law 1344 = .ok (.invokevirtual 210, 3) := dc_182 (a0 := 0) (b0 := 210) aL_law_1344
theorem dL_law_1347 : decode cL_law 1347 = .ok (.pop, 1) := dc_87 aL_law_1347
theorem dL_law_1348 : decode cL_law 1348 = .ok (.aload_n 2, 1) := dc_44 aL_law_1348
theorem dL_law_1349 : decode cL_law 1349 = .ok (.invokevirtual 214, 3) := dc_182 (a0 := 0) (b0 := 214) aL_law_1349
theorem dL_law_1352 : decode cL_law 1352 = .ok (.pop, 1) := dc_87 aL_law_1352
theorem dL_law_1353 : decode cL_law 1353 = .ok (.goto 713, 3) := dc_167 (a0 := 2) (b0 := 201) aL_law_1353 (by decide)
theorem dL_law_1356 : decode cL_law 1356 = .ok (.aload_n 1, 1) := dc_43 aL_law_1356
theorem dL_law_1357 : decode cL_law 1357 = .ok (.invokevirtual 215, 3) := dc_182 (a0 := 0) (b0 := 215) aL_law_1357
theorem dL_law_1360 : decode cL_law 1360 = .ok (.pop, 1) := dc_87 aL_law_1360
theorem dL_law_1361 : decode cL_law 1361 = .ok (.aload_n 2, 1) := dc_44 aL_law_1361
theorem dL_law_1362 : decode cL_law 1362 = .ok (.invokevirtual 218, 3) := dc_182 (a0 := 0) (b0 := 218) aL_law_1362
theorem dL_law_1365 : decode cL_law 1365 = .ok (.pop, 1) := dc_87 aL_law_1365
theorem dL_law_1366 : decode cL_law 1366 = .ok (.goto 700, 3) := dc_167 (a0 := 2) (b0 := 188) aL_law_1366 (by decide)
theorem dL_law_1369 : decode cL_law 1369 = .ok (.aload_n 1, 1) := dc_43 aL_law_1369
theorem dL_law_1370 : decode cL_law 1370 = .ok (.aload_n 0, 1) := dc_42 aL_law_1370
theorem dL_law_1371 : decode cL_law 1371 = .ok (.iload 4, 2) := dc_21 (a0 := 4) aL_law_1371
theorem dL_law_1373 : decode cL_law 1373 = .ok (.iconst 1, 1) := dc_4 aL_law_1373
theorem dL_law_1374 : decode cL_law 1374 = .ok (.iadd, 1) := dc_96 aL_law_1374
theorem dL_law_1375 : decode cL_law 1375 = .ok (.iaload, 1) := dc_46 aL_law_1375
theorem dL_law_1376 : decode cL_law 1376 = .ok (.aload_n 0, 1) := dc_42 aL_law_1376
theorem dL_law_1377 : decode cL_law 1377 = .ok (.iload 4, 2) := dc_21 (a0 := 4) aL_law_1377
theorem dL_law_1379 : decode cL_law 1379 = .ok (.iconst 2, 1) := dc_5 aL_law_1379
theorem dL_law_1380 : decode cL_law 1380 = .ok (.iadd, 1) := dc_96 aL_law_1380
theorem dL_law_1381 : decode cL_law 1381 = .ok (.iaload, 1) := dc_46 aL_law_1381
theorem dL_law_1382 : decode cL_law 1382 = .ok (.aload_n 0, 1) := dc_42 aL_law_1382
theorem dL_law_1383 : decode cL_law 1383 = .ok (.iload 4, 2) := dc_21 (a0 := 4) aL_law_1383
theorem dL_law_1385 : decode cL_law 1385 = .ok (.iconst 3, 1) := dc_6 aL_law_1385
theorem dL_law_1386 : decode cL_law 1386 = .ok (.iadd, 1) := dc_96 aL_law_1386
theorem dL_law_1387 : decode cL_law 1387 = .ok (.iaload, 1) := dc_46 aL_law_1387
theorem dL_law_1388 : decode cL_law 1388 = .ok (.aload_n 0, 1) := dc_42 aL_law_1388
theorem dL_law_1389 : decode cL_law 1389 = .ok (.iload 4, 2) := dc_21 (a0 := 4) aL_law_1389
theorem dL_law_1391 : decode cL_law 1391 = .ok (.iconst 4, 1) := dc_7 aL_law_1391
theorem dL_law_1392 : decode cL_law 1392 = .ok (.iadd, 1) := dc_96 aL_law_1392
theorem dL_law_1393 : decode cL_law 1393 = .ok (.iaload, 1) := dc_46 aL_law_1393
theorem dL_law_1394 : decode cL_law 1394 = .ok (.aload_n 0, 1) := dc_42 aL_law_1394
theorem dL_law_1395 : decode cL_law 1395 = .ok (.iload 4, 2) := dc_21 (a0 := 4) aL_law_1395
theorem dL_law_1397 : decode cL_law 1397 = .ok (.iconst 5, 1) := dc_8 aL_law_1397
theorem dL_law_1398 : decode cL_law 1398 = .ok (.iadd, 1) := dc_96 aL_law_1398
theorem dL_law_1399 : decode cL_law 1399 = .ok (.iaload, 1) := dc_46 aL_law_1399
theorem dL_law_1400 : decode cL_law 1400 = .ok (.aload_n 3, 1) := dc_45 aL_law_1400
theorem dL_law_1401 : decode cL_law 1401 = .ok (.invokestatic 219, 3) := dc_184 (a0 := 0) (b0 := 219) aL_law_1401
theorem dL_law_1404 : decode cL_law 1404 = .ok (.istore 5, 2) := dc_54 (a0 := 5) aL_law_1404
theorem dL_law_1406 : decode cL_law 1406 = .ok (.aload_n 2, 1) := dc_44 aL_law_1406
theorem dL_law_1407 : decode cL_law 1407 = .ok (.aload_n 0, 1) := dc_42 aL_law_1407
theorem dL_law_1408 : decode cL_law 1408 = .ok (.iload 4, 2) := dc_21 (a0 := 4) aL_law_1408
theorem dL_law_1410 : decode cL_law 1410 = .ok (.iconst 1, 1) := dc_4 aL_law_1410
theorem dL_law_1411 : decode cL_law 1411 = .ok (.iadd, 1) := dc_96 aL_law_1411
theorem dL_law_1412 : decode cL_law 1412 = .ok (.iaload, 1) := dc_46 aL_law_1412
theorem dL_law_1413 : decode cL_law 1413 = .ok (.aload_n 0, 1) := dc_42 aL_law_1413
theorem dL_law_1414 : decode cL_law 1414 = .ok (.iload 4, 2) := dc_21 (a0 := 4) aL_law_1414
theorem dL_law_1416 : decode cL_law 1416 = .ok (.iconst 2, 1) := dc_5 aL_law_1416
theorem dL_law_1417 : decode cL_law 1417 = .ok (.iadd, 1) := dc_96 aL_law_1417
theorem dL_law_1418 : decode cL_law 1418 = .ok (.iaload, 1) := dc_46 aL_law_1418
theorem dL_law_1419 : decode cL_law 1419 = .ok (.aload_n 0, 1) := dc_42 aL_law_1419
theorem dL_law_1420 : decode cL_law 1420 = .ok (.iload 4, 2) := dc_21 (a0 := 4) aL_law_1420
theorem dL_law_1422 : decode cL_law 1422 = .ok (.iconst 3, 1) := dc_6 aL_law_1422
theorem dL_law_1423 : decode cL_law 1423 = .ok (.iadd, 1) := dc_96 aL_law_1423
theorem dL_law_1424 : decode cL_law 1424 = .ok (.iaload, 1) := dc_46 aL_law_1424
theorem dL_law_1425 : decode cL_law 1425 = .ok (.aload_n 0, 1) := dc_42 aL_law_1425
theorem dL_law_1426 : decode cL_law 1426 = .ok (.iload 4, 2) := dc_21 (a0 := 4) aL_law_1426
theorem dL_law_1428 : decode cL_law 1428 = .ok (.iconst 4, 1) := dc_7 aL_law_1428
theorem dL_law_1429 : decode cL_law 1429 = .ok (.iadd, 1) := dc_96 aL_law_1429
theorem dL_law_1430 : decode cL_law 1430 = .ok (.iaload, 1) := dc_46 aL_law_1430
theorem dL_law_1431 : decode cL_law 1431 = .ok (.aload_n 0, 1) := dc_42 aL_law_1431
theorem dL_law_1432 : decode cL_law 1432 = .ok (.iload 4, 2) := dc_21 (a0 := 4) aL_law_1432
theorem dL_law_1434 : decode cL_law 1434 = .ok (.iconst 5, 1) := dc_8 aL_law_1434
theorem dL_law_1435 : decode cL_law 1435 = .ok (.iadd, 1) := dc_96 aL_law_1435
theorem dL_law_1436 : decode cL_law 1436 = .ok (.iaload, 1) := dc_46 aL_law_1436
theorem dL_law_1437 : decode cL_law 1437 = .ok (.invokevirtual 221, 3) := dc_182 (a0 := 0) (b0 := 221) aL_law_1437
theorem dL_law_1440 : decode cL_law 1440 = .ok (.istore 6, 2) := dc_54 (a0 := 6) aL_law_1440
theorem dL_law_1442 : decode cL_law 1442 = .ok (.goto 624, 3) := dc_167 (a0 := 2) (b0 := 112) aL_law_1442 (by decide)
theorem dL_law_1445 : decode cL_law 1445 = .ok (.aload_n 1, 1) := dc_43 aL_law_1445
theorem dL_law_1446 : decode cL_law 1446 = .ok (.aload_n 0, 1) := dc_42 aL_law_1446
theorem dL_law_1447 : decode cL_law 1447 = .ok (.iload 4, 2) := dc_21 (a0 := 4) aL_law_1447
theorem dL_law_1449 : decode cL_law 1449 = .ok (.iconst 1, 1) := dc_4 aL_law_1449
theorem dL_law_1450 : decode cL_law 1450 = .ok (.iadd, 1) := dc_96 aL_law_1450
theorem dL_law_1451 : decode cL_law 1451 = .ok (.iaload, 1) := dc_46 aL_law_1451
theorem dL_law_1452 : decode cL_law 1452 = .ok (.aload_n 0, 1) := dc_42 aL_law_1452
theorem dL_law_1453 : decode cL_law 1453 = .ok (.iload 4, 2) := dc_21 (a0 := 4) aL_law_1453
theorem dL_law_1455 : decode cL_law 1455 = .ok (.iconst 2, 1) := dc_5 aL_law_1455
theorem dL_law_1456 : decode cL_law 1456 = .ok (.iadd, 1) := dc_96 aL_law_1456
theorem dL_law_1457 : decode cL_law 1457 = .ok (.iaload, 1) := dc_46 aL_law_1457
theorem dL_law_1458 : decode cL_law 1458 = .ok (.aload_n 0, 1) := dc_42 aL_law_1458
theorem dL_law_1459 : decode cL_law 1459 = .ok (.iload 4, 2) := dc_21 (a0 := 4) aL_law_1459
theorem dL_law_1461 : decode cL_law 1461 = .ok (.iconst 3, 1) := dc_6 aL_law_1461
theorem dL_law_1462 : decode cL_law 1462 = .ok (.iadd, 1) := dc_96 aL_law_1462
theorem dL_law_1463 : decode cL_law 1463 = .ok (.iaload, 1) := dc_46 aL_law_1463
theorem dL_law_1464 : decode cL_law 1464 = .ok (.aload_n 0, 1) := dc_42 aL_law_1464
theorem dL_law_1465 : decode cL_law 1465 = .ok (.iload 4, 2) := dc_21 (a0 := 4) aL_law_1465
theorem dL_law_1467 : decode cL_law 1467 = .ok (.iconst 4, 1) := dc_7 aL_law_1467
theorem dL_law_1468 : decode cL_law 1468 = .ok (.iadd, 1) := dc_96 aL_law_1468
theorem dL_law_1469 : decode cL_law 1469 = .ok (.iaload, 1) := dc_46 aL_law_1469
theorem dL_law_1470 : decode cL_law 1470 = .ok (.aload_n 3, 1) := dc_45 aL_law_1470
theorem dL_law_1471 : decode cL_law 1471 = .ok (.invokestatic 222, 3) := dc_184 (a0 := 0) (b0 := 222) aL_law_1471
theorem dL_law_1474 : decode cL_law 1474 = .ok (.istore 5, 2) := dc_54 (a0 := 5) aL_law_1474
theorem dL_law_1476 : decode cL_law 1476 = .ok (.aload_n 2, 1) := dc_44 aL_law_1476
theorem dL_law_1477 : decode cL_law 1477 = .ok (.aload_n 0, 1) := dc_42 aL_law_1477
theorem dL_law_1478 : decode cL_law 1478 = .ok (.iload 4, 2) := dc_21 (a0 := 4) aL_law_1478
theorem dL_law_1480 : decode cL_law 1480 = .ok (.iconst 1, 1) := dc_4 aL_law_1480
theorem dL_law_1481 : decode cL_law 1481 = .ok (.iadd, 1) := dc_96 aL_law_1481
theorem dL_law_1482 : decode cL_law 1482 = .ok (.iaload, 1) := dc_46 aL_law_1482
theorem dL_law_1483 : decode cL_law 1483 = .ok (.aload_n 0, 1) := dc_42 aL_law_1483
theorem dL_law_1484 : decode cL_law 1484 = .ok (.iload 4, 2) := dc_21 (a0 := 4) aL_law_1484
theorem dL_law_1486 : decode cL_law 1486 = .ok (.iconst 2, 1) := dc_5 aL_law_1486
theorem dL_law_1487 : decode cL_law 1487 = .ok (.iadd, 1) := dc_96 aL_law_1487
theorem dL_law_1488 : decode cL_law 1488 = .ok (.iaload, 1) := dc_46 aL_law_1488
theorem dL_law_1489 : decode cL_law 1489 = .ok (.aload_n 0, 1) := dc_42 aL_law_1489
theorem dL_law_1490 : decode cL_law 1490 = .ok (.iload 4, 2) := dc_21 (a0 := 4) aL_law_1490
theorem dL_law_1492 : decode cL_law 1492 = .ok (.iconst 3, 1) := dc_6 aL_law_1492
theorem dL_law_1493 : decode cL_law 1493 = .ok (.iadd, 1) := dc_96 aL_law_1493
theorem dL_law_1494 : decode cL_law 1494 = .ok (.iaload, 1) := dc_46 aL_law_1494
theorem dL_law_1495 : decode cL_law 1495 = .ok (.aload_n 0, 1) := dc_42 aL_law_1495
theorem dL_law_1496 : decode cL_law 1496 = .ok (.iload 4, 2) := dc_21 (a0 := 4) aL_law_1496
theorem dL_law_1498 : decode cL_law 1498 = .ok (.iconst 4, 1) := dc_7 aL_law_1498
theorem dL_law_1499 : decode cL_law 1499 = .ok (.iadd, 1) := dc_96 aL_law_1499
theorem dL_law_1500 : decode cL_law 1500 = .ok (.iaload, 1) := dc_46 aL_law_1500
theorem dL_law_1501 : decode cL_law 1501 = .ok (.invokevirtual 224, 3) := dc_182 (a0 := 0) (b0 := 224) aL_law_1501
theorem dL_law_1504 : decode cL_law 1504 = .ok (.istore 6, 2) := dc_54 (a0 := 6) aL_law_1504
theorem dL_law_1506 : decode cL_law 1506 = .ok (.goto 560, 3) := dc_167 (a0 := 2) (b0 := 48) aL_law_1506 (by decide)
theorem dL_law_1509 : decode cL_law 1509 = .ok (.aload_n 1, 1) := dc_43 aL_law_1509
theorem dL_law_1510 : decode cL_law 1510 = .ok (.aload_n 0, 1) := dc_42 aL_law_1510
theorem dL_law_1511 : decode cL_law 1511 = .ok (.iload 4, 2) := dc_21 (a0 := 4) aL_law_1511
theorem dL_law_1513 : decode cL_law 1513 = .ok (.iconst 1, 1) := dc_4 aL_law_1513
theorem dL_law_1514 : decode cL_law 1514 = .ok (.iadd, 1) := dc_96 aL_law_1514
theorem dL_law_1515 : decode cL_law 1515 = .ok (.iaload, 1) := dc_46 aL_law_1515
theorem dL_law_1516 : decode cL_law 1516 = .ok (.aload_n 0, 1) := dc_42 aL_law_1516
theorem dL_law_1517 : decode cL_law 1517 = .ok (.iload 4, 2) := dc_21 (a0 := 4) aL_law_1517
theorem dL_law_1519 : decode cL_law 1519 = .ok (.iconst 2, 1) := dc_5 aL_law_1519
theorem dL_law_1520 : decode cL_law 1520 = .ok (.iadd, 1) := dc_96 aL_law_1520
theorem dL_law_1521 : decode cL_law 1521 = .ok (.iaload, 1) := dc_46 aL_law_1521
theorem dL_law_1522 : decode cL_law 1522 = .ok (.aload_n 0, 1) := dc_42 aL_law_1522
theorem dL_law_1523 : decode cL_law 1523 = .ok (.iload 4, 2) := dc_21 (a0 := 4) aL_law_1523
theorem dL_law_1525 : decode cL_law 1525 = .ok (.iconst 3, 1) := dc_6 aL_law_1525
theorem dL_law_1526 : decode cL_law 1526 = .ok (.iadd, 1) := dc_96 aL_law_1526
theorem dL_law_1527 : decode cL_law 1527 = .ok (.iaload, 1) := dc_46 aL_law_1527
theorem dL_law_1528 : decode cL_law 1528 = .ok (.aload_n 3, 1) := dc_45 aL_law_1528
theorem dL_law_1529 : decode cL_law 1529 = .ok (.invokestatic 225, 3) := dc_184 (a0 := 0) (b0 := 225) aL_law_1529
theorem dL_law_1532 : decode cL_law 1532 = .ok (.istore 5, 2) := dc_54 (a0 := 5) aL_law_1532
theorem dL_law_1534 : decode cL_law 1534 = .ok (.aload_n 2, 1) := dc_44 aL_law_1534
theorem dL_law_1535 : decode cL_law 1535 = .ok (.aload_n 0, 1) := dc_42 aL_law_1535
theorem dL_law_1536 : decode cL_law 1536 = .ok (.iload 4, 2) := dc_21 (a0 := 4) aL_law_1536
theorem dL_law_1538 : decode cL_law 1538 = .ok (.iconst 1, 1) := dc_4 aL_law_1538
theorem dL_law_1539 : decode cL_law 1539 = .ok (.iadd, 1) := dc_96 aL_law_1539
theorem dL_law_1540 : decode cL_law 1540 = .ok (.iaload, 1) := dc_46 aL_law_1540
theorem dL_law_1541 : decode cL_law 1541 = .ok (.aload_n 0, 1) := dc_42 aL_law_1541
theorem dL_law_1542 : decode cL_law 1542 = .ok (.iload 4, 2) := dc_21 (a0 := 4) aL_law_1542
theorem dL_law_1544 : decode cL_law 1544 = .ok (.iconst 2, 1) := dc_5 aL_law_1544
theorem dL_law_1545 : decode cL_law 1545 = .ok (.iadd, 1) := dc_96 aL_law_1545
theorem dL_law_1546 : decode cL_law 1546 = .ok (.iaload, 1) := dc_46 aL_law_1546
theorem dL_law_1547 : decode cL_law 1547 = .ok (.aload_n 0, 1) := dc_42 aL_law_1547
theorem dL_law_1548 : decode cL_law 1548 = .ok (.iload 4, 2) := dc_21 (a0 := 4) aL_law_1548
theorem dL_law_1550 : decode cL_law 1550 = .ok (.iconst 3, 1) := dc_6 aL_law_1550
theorem dL_law_1551 : decode cL_law 1551 = .ok (.iadd, 1) := dc_96 aL_law_1551
theorem dL_law_1552 : decode cL_law 1552 = .ok (.iaload, 1) := dc_46 aL_law_1552
theorem dL_law_1553 : decode cL_law 1553 = .ok (.invokevirtual 227, 3) := dc_182 (a0 := 0) (b0 := 227) aL_law_1553
theorem dL_law_1556 : decode cL_law 1556 = .ok (.istore 6, 2) := dc_54 (a0 := 6) aL_law_1556
theorem dL_law_1558 : decode cL_law 1558 = .ok (.goto 508, 3) := dc_167 (a0 := 1) (b0 := 252) aL_law_1558 (by decide)
theorem dL_law_1561 : decode cL_law 1561 = .ok (.aload_n 1, 1) := dc_43 aL_law_1561
theorem dL_law_1562 : decode cL_law 1562 = .ok (.aload_n 0, 1) := dc_42 aL_law_1562
theorem dL_law_1563 : decode cL_law 1563 = .ok (.iload 4, 2) := dc_21 (a0 := 4) aL_law_1563
theorem dL_law_1565 : decode cL_law 1565 = .ok (.iconst 1, 1) := dc_4 aL_law_1565
theorem dL_law_1566 : decode cL_law 1566 = .ok (.iadd, 1) := dc_96 aL_law_1566
theorem dL_law_1567 : decode cL_law 1567 = .ok (.iaload, 1) := dc_46 aL_law_1567
theorem dL_law_1568 : decode cL_law 1568 = .ok (.aload_n 0, 1) := dc_42 aL_law_1568
theorem dL_law_1569 : decode cL_law 1569 = .ok (.iload 4, 2) := dc_21 (a0 := 4) aL_law_1569
theorem dL_law_1571 : decode cL_law 1571 = .ok (.iconst 2, 1) := dc_5 aL_law_1571
theorem dL_law_1572 : decode cL_law 1572 = .ok (.iadd, 1) := dc_96 aL_law_1572
theorem dL_law_1573 : decode cL_law 1573 = .ok (.iaload, 1) := dc_46 aL_law_1573
theorem dL_law_1574 : decode cL_law 1574 = .ok (.aload_n 3, 1) := dc_45 aL_law_1574
theorem dL_law_1575 : decode cL_law 1575 = .ok (.invokestatic 228, 3) := dc_184 (a0 := 0) (b0 := 228) aL_law_1575
theorem dL_law_1578 : decode cL_law 1578 = .ok (.istore 5, 2) := dc_54 (a0 := 5) aL_law_1578
theorem dL_law_1580 : decode cL_law 1580 = .ok (.aload_n 2, 1) := dc_44 aL_law_1580
theorem dL_law_1581 : decode cL_law 1581 = .ok (.aload_n 0, 1) := dc_42 aL_law_1581
theorem dL_law_1582 : decode cL_law 1582 = .ok (.iload 4, 2) := dc_21 (a0 := 4) aL_law_1582
theorem dL_law_1584 : decode cL_law 1584 = .ok (.iconst 1, 1) := dc_4 aL_law_1584
theorem dL_law_1585 : decode cL_law 1585 = .ok (.iadd, 1) := dc_96 aL_law_1585
theorem dL_law_1586 : decode cL_law 1586 = .ok (.iaload, 1) := dc_46 aL_law_1586
theorem dL_law_1587 : decode cL_law 1587 = .ok (.aload_n 0, 1) := dc_42 aL_law_1587
theorem dL_law_1588 : decode cL_law 1588 = .ok (.iload 4, 2) := dc_21 (a0 := 4) aL_law_1588
theorem dL_law_1590 : decode cL_law 1590 = .ok (.iconst 2, 1) := dc_5 aL_law_1590
theorem dL_law_1591 : decode cL_law 1591 = .ok (.iadd, 1) := dc_96 aL_law_1591
theorem dL_law_1592 : decode cL_law 1592 = .ok (.iaload, 1) := dc_46 aL_law_1592
theorem dL_law_1593 : decode cL_law 1593 = .ok (.invokevirtual 230, 3) := dc_182 (a0 := 0) (b0 := 230) aL_law_1593
theorem dL_law_1596 : decode cL_law 1596 = .ok (.istore 6, 2) := dc_54 (a0 := 6) aL_law_1596
theorem dL_law_1598 : decode cL_law 1598 = .ok (.goto 468, 3) := dc_167 (a0 := 1) (b0 := 212) aL_law_1598 (by decide)
theorem dL_law_1601 : decode cL_law 1601 = .ok (.aload_n 1, 1) := dc_43 aL_law_1601
theorem dL_law_1602 : decode cL_law 1602 = .ok (.aload_n 0, 1) := dc_42 aL_law_1602
theorem dL_law_1603 : decode cL_law 1603 = .ok (.iload 4, 2) := dc_21 (a0 := 4) aL_law_1603
theorem dL_law_1605 : decode cL_law 1605 = .ok (.iconst 1, 1) := dc_4 aL_law_1605
theorem dL_law_1606 : decode cL_law 1606 = .ok (.iadd, 1) := dc_96 aL_law_1606
theorem dL_law_1607 : decode cL_law 1607 = .ok (.iaload, 1) := dc_46 aL_law_1607
theorem dL_law_1608 : decode cL_law 1608 = .ok (.aload_n 0, 1) := dc_42 aL_law_1608
theorem dL_law_1609 : decode cL_law 1609 = .ok (.iload 4, 2) := dc_21 (a0 := 4) aL_law_1609
theorem dL_law_1611 : decode cL_law 1611 = .ok (.iconst 2, 1) := dc_5 aL_law_1611
theorem dL_law_1612 : decode cL_law 1612 = .ok (.iadd, 1) := dc_96 aL_law_1612
theorem dL_law_1613 : decode cL_law 1613 = .ok (.iaload, 1) := dc_46 aL_law_1613
theorem dL_law_1614 : decode cL_law 1614 = .ok (.aload_n 0, 1) := dc_42 aL_law_1614
theorem dL_law_1615 : decode cL_law 1615 = .ok (.iload 4, 2) := dc_21 (a0 := 4) aL_law_1615
theorem dL_law_1617 : decode cL_law 1617 = .ok (.iconst 3, 1) := dc_6 aL_law_1617
theorem dL_law_1618 : decode cL_law 1618 = .ok (.iadd, 1) := dc_96 aL_law_1618
theorem dL_law_1619 : decode cL_law 1619 = .ok (.iaload, 1) := dc_46 aL_law_1619
theorem dL_law_1620 : decode cL_law 1620 = .ok (.aload_n 3, 1) := dc_45 aL_law_1620
theorem dL_law_1621 : decode cL_law 1621 = .ok (.invokestatic 231, 3) := dc_184 (a0 := 0) (b0 := 231) aL_law_1621
theorem dL_law_1624 : decode cL_law 1624 = .ok (.istore 5, 2) := dc_54 (a0 := 5) aL_law_1624
theorem dL_law_1626 : decode cL_law 1626 = .ok (.aload_n 2, 1) := dc_44 aL_law_1626
theorem dL_law_1627 : decode cL_law 1627 = .ok (.aload_n 0, 1) := dc_42 aL_law_1627
theorem dL_law_1628 : decode cL_law 1628 = .ok (.iload 4, 2) := dc_21 (a0 := 4) aL_law_1628
theorem dL_law_1630 : decode cL_law 1630 = .ok (.iconst 1, 1) := dc_4 aL_law_1630
theorem dL_law_1631 : decode cL_law 1631 = .ok (.iadd, 1) := dc_96 aL_law_1631
theorem dL_law_1632 : decode cL_law 1632 = .ok (.iaload, 1) := dc_46 aL_law_1632
theorem dL_law_1633 : decode cL_law 1633 = .ok (.aload_n 0, 1) := dc_42 aL_law_1633
theorem dL_law_1634 : decode cL_law 1634 = .ok (.iload 4, 2) := dc_21 (a0 := 4) aL_law_1634
theorem dL_law_1636 : decode cL_law 1636 = .ok (.iconst 2, 1) := dc_5 aL_law_1636
theorem dL_law_1637 : decode cL_law 1637 = .ok (.iadd, 1) := dc_96 aL_law_1637
theorem dL_law_1638 : decode cL_law 1638 = .ok (.iaload, 1) := dc_46 aL_law_1638
theorem dL_law_1639 : decode cL_law 1639 = .ok (.aload_n 0, 1) := dc_42 aL_law_1639
theorem dL_law_1640 : decode cL_law 1640 = .ok (.iload 4, 2) := dc_21 (a0 := 4) aL_law_1640
theorem dL_law_1642 : decode cL_law 1642 = .ok (.iconst 3, 1) := dc_6 aL_law_1642
theorem dL_law_1643 : decode cL_law 1643 = .ok (.iadd, 1) := dc_96 aL_law_1643
theorem dL_law_1644 : decode cL_law 1644 = .ok (.iaload, 1) := dc_46 aL_law_1644
theorem dL_law_1645 : decode cL_law 1645 = .ok (.invokevirtual 233, 3) := dc_182 (a0 := 0) (b0 := 233) aL_law_1645
theorem dL_law_1648 : decode cL_law 1648 = .ok (.istore 6, 2) := dc_54 (a0 := 6) aL_law_1648
theorem dL_law_1650 : decode cL_law 1650 = .ok (.aload_n 2, 1) := dc_44 aL_law_1650
theorem dL_law_1651 : decode cL_law 1651 = .ok (.invokevirtual 234, 3) := dc_182 (a0 := 0) (b0 := 234) aL_law_1651
theorem dL_law_1654 : decode cL_law 1654 = .ok (.iload 5, 2) := dc_21 (a0 := 5) aL_law_1654
theorem dL_law_1656 : decode cL_law 1656 = .ok (.if_icmp .eq 5, 3) := dc_159 (a0 := 0) (b0 := 5) aL_law_1656 (by decide)
theorem dL_law_1659 : decode cL_law 1659 = .ok (.iconst 0, 1) := dc_3 aL_law_1659
theorem dL_law_1660 : decode cL_law 1660 = .ok (.ireturn, 1) := dc_172 aL_law_1660
theorem dL_law_1661 : decode cL_law 1661 = .ok (.iload 5, 2) := dc_21 (a0 := 5) aL_law_1661
theorem dL_law_1663 : decode cL_law 1663 = .ok (.ifCond .ne 15, 3) := dc_154 (a0 := 0) (b0 := 15) aL_law_1663 (by decide)
theorem dL_law_1666 : decode cL_law 1666 = .ok (.aload_n 3, 1) := dc_45 aL_law_1666
theorem dL_law_1667 : decode cL_law 1667 = .ok (.iconst 0, 1) := dc_3 aL_law_1667
theorem dL_law_1668 : decode cL_law 1668 = .ok (.laload, 1) := dc_47 aL_law_1668
theorem dL_law_1669 : decode cL_law 1669 = .ok (.iload 6, 2) := dc_21 (a0 := 6) aL_law_1669
theorem dL_law_1671 : decode cL_law 1671 = .ok (.i2l, 1) := dc_133 aL_law_1671
theorem dL_law_1672 : decode cL_law 1672 = .ok (.lcmp, 1) := dc_148 aL_law_1672
theorem dL_law_1673 : decode cL_law 1673 = .ok (.ifCond .eq 5, 3) := dc_153 (a0 := 0) (b0 := 5) aL_law_1673 (by decide)
theorem dL_law_1676 : decode cL_law 1676 = .ok (.iconst 0, 1) := dc_3 aL_law_1676
theorem dL_law_1677 : decode cL_law 1677 = .ok (.ireturn, 1) := dc_172 aL_law_1677
theorem dL_law_1678 : decode cL_law 1678 = .ok (.goto 388, 3) := dc_167 (a0 := 1) (b0 := 132) aL_law_1678 (by decide)
theorem dL_law_1681 : decode cL_law 1681 = .ok (.aload_n 1, 1) := dc_43 aL_law_1681
theorem dL_law_1682 : decode cL_law 1682 = .ok (.aload_n 0, 1) := dc_42 aL_law_1682
theorem dL_law_1683 : decode cL_law 1683 = .ok (.iload 4, 2) := dc_21 (a0 := 4) aL_law_1683
theorem dL_law_1685 : decode cL_law 1685 = .ok (.iconst 1, 1) := dc_4 aL_law_1685
theorem dL_law_1686 : decode cL_law 1686 = .ok (.iadd, 1) := dc_96 aL_law_1686
theorem dL_law_1687 : decode cL_law 1687 = .ok (.iaload, 1) := dc_46 aL_law_1687
theorem dL_law_1688 : decode cL_law 1688 = .ok (.aload_n 0, 1) := dc_42 aL_law_1688
theorem dL_law_1689 : decode cL_law 1689 = .ok (.iload 4, 2) := dc_21 (a0 := 4) aL_law_1689
theorem dL_law_1691 : decode cL_law 1691 = .ok (.iconst 2, 1) := dc_5 aL_law_1691
theorem dL_law_1692 : decode cL_law 1692 = .ok (.iadd, 1) := dc_96 aL_law_1692
theorem dL_law_1693 : decode cL_law 1693 = .ok (.iaload, 1) := dc_46 aL_law_1693
theorem dL_law_1694 : decode cL_law 1694 = .ok (.aload_n 3, 1) := dc_45 aL_law_1694
theorem dL_law_1695 : decode cL_law 1695 = .ok (.invokestatic 237, 3) := dc_184 (a0 := 0) (b0 := 237) aL_law_1695
theorem dL_law_1698 : decode cL_law 1698 = .ok (.istore 5, 2) := dc_54 (a0 := 5) aL_law_1698
theorem dL_law_1700 : decode cL_law 1700 = .ok (.aload_n 2, 1) := dc_44 aL_law_1700
theorem dL_law_1701 : decode cL_law 1701 = .ok (.aload_n 0, 1) := dc_42 aL_law_1701
theorem dL_law_1702 : decode cL_law 1702 = .ok (.iload 4, 2) := dc_21 (a0 := 4) aL_law_1702
theorem dL_law_1704 : decode cL_law 1704 = .ok (.iconst 1, 1) := dc_4 aL_law_1704
theorem dL_law_1705 : decode cL_law 1705 = .ok (.iadd, 1) := dc_96 aL_law_1705
theorem dL_law_1706 : decode cL_law 1706 = .ok (.iaload, 1) := dc_46 aL_law_1706
theorem dL_law_1707 : decode cL_law 1707 = .ok (.aload_n 0, 1) := dc_42 aL_law_1707
theorem dL_law_1708 : decode cL_law 1708 = .ok (.iload 4, 2) := dc_21 (a0 := 4) aL_law_1708
theorem dL_law_1710 : decode cL_law 1710 = .ok (.iconst 2, 1) := dc_5 aL_law_1710
theorem dL_law_1711 : decode cL_law 1711 = .ok (.iadd, 1) := dc_96 aL_law_1711
theorem dL_law_1712 : decode cL_law 1712 = .ok (.iaload, 1) := dc_46 aL_law_1712
theorem dL_law_1713 : decode cL_law 1713 = .ok (.invokevirtual 239, 3) := dc_182 (a0 := 0) (b0 := 239) aL_law_1713
theorem dL_law_1716 : decode cL_law 1716 = .ok (.istore 6, 2) := dc_54 (a0 := 6) aL_law_1716
theorem dL_law_1718 : decode cL_law 1718 = .ok (.goto 348, 3) := dc_167 (a0 := 1) (b0 := 92) aL_law_1718 (by decide)
theorem dL_law_1721 : decode cL_law 1721 = .ok (.aload_n 1, 1) := dc_43 aL_law_1721
theorem dL_law_1722 : decode cL_law 1722 = .ok (.aload_n 0, 1) := dc_42 aL_law_1722
theorem dL_law_1723 : decode cL_law 1723 = .ok (.iload 4, 2) := dc_21 (a0 := 4) aL_law_1723
theorem dL_law_1725 : decode cL_law 1725 = .ok (.iconst 1, 1) := dc_4 aL_law_1725
theorem dL_law_1726 : decode cL_law 1726 = .ok (.iadd, 1) := dc_96 aL_law_1726
theorem dL_law_1727 : decode cL_law 1727 = .ok (.iaload, 1) := dc_46 aL_law_1727
theorem dL_law_1728 : decode cL_law 1728 = .ok (.aload_n 0, 1) := dc_42 aL_law_1728
theorem dL_law_1729 : decode cL_law 1729 = .ok (.iload 4, 2) := dc_21 (a0 := 4) aL_law_1729
theorem dL_law_1731 : decode cL_law 1731 = .ok (.iconst 2, 1) := dc_5 aL_law_1731
theorem dL_law_1732 : decode cL_law 1732 = .ok (.iadd, 1) := dc_96 aL_law_1732
theorem dL_law_1733 : decode cL_law 1733 = .ok (.iaload, 1) := dc_46 aL_law_1733
theorem dL_law_1734 : decode cL_law 1734 = .ok (.aload_n 0, 1) := dc_42 aL_law_1734
theorem dL_law_1735 : decode cL_law 1735 = .ok (.iload 4, 2) := dc_21 (a0 := 4) aL_law_1735
theorem dL_law_1737 : decode cL_law 1737 = .ok (.iconst 3, 1) := dc_6 aL_law_1737
theorem dL_law_1738 : decode cL_law 1738 = .ok (.iadd, 1) := dc_96 aL_law_1738
theorem dL_law_1739 : decode cL_law 1739 = .ok (.iaload, 1) := dc_46 aL_law_1739
theorem dL_law_1740 : decode cL_law 1740 = .ok (.aload_n 3, 1) := dc_45 aL_law_1740
theorem dL_law_1741 : decode cL_law 1741 = .ok (.invokestatic 240, 3) := dc_184 (a0 := 0) (b0 := 240) aL_law_1741
theorem dL_law_1744 : decode cL_law 1744 = .ok (.istore 5, 2) := dc_54 (a0 := 5) aL_law_1744
theorem dL_law_1746 : decode cL_law 1746 = .ok (.aload_n 2, 1) := dc_44 aL_law_1746
theorem dL_law_1747 : decode cL_law 1747 = .ok (.aload_n 0, 1) := dc_42 aL_law_1747
theorem dL_law_1748 : decode cL_law 1748 = .ok (.iload 4, 2) := dc_21 (a0 := 4) aL_law_1748
theorem dL_law_1750 : decode cL_law 1750 = .ok (.iconst 1, 1) := dc_4 aL_law_1750
theorem dL_law_1751 : decode cL_law 1751 = .ok (.iadd, 1) := dc_96 aL_law_1751
theorem dL_law_1752 : decode cL_law 1752 = .ok (.iaload, 1) := dc_46 aL_law_1752
theorem dL_law_1753 : decode cL_law 1753 = .ok (.aload_n 0, 1) := dc_42 aL_law_1753
theorem dL_law_1754 : decode cL_law 1754 = .ok (.iload 4, 2) := dc_21 (a0 := 4) aL_law_1754
theorem dL_law_1756 : decode cL_law 1756 = .ok (.iconst 2, 1) := dc_5 aL_law_1756
theorem dL_law_1757 : decode cL_law 1757 = .ok (.iadd, 1) := dc_96 aL_law_1757
theorem dL_law_1758 : decode cL_law 1758 = .ok (.iaload, 1) := dc_46 aL_law_1758
theorem dL_law_1759 : decode cL_law 1759 = .ok (.aload_n 0, 1) := dc_42 aL_law_1759
theorem dL_law_1760 : decode cL_law 1760 = .ok (.iload 4, 2) := dc_21 (a0 := 4) aL_law_1760
theorem dL_law_1762 : decode cL_law 1762 = .ok (.iconst 3, 1) := dc_6 aL_law_1762
theorem dL_law_1763 : decode cL_law 1763 = .ok (.iadd, 1) := dc_96 aL_law_1763
theorem dL_law_1764 : decode cL_law 1764 = .ok (.iaload, 1) := dc_46 aL_law_1764
theorem dL_law_1765 : decode cL_law 1765 = .ok (.invokevirtual 242, 3) := dc_182 (a0 := 0) (b0 := 242) aL_law_1765
theorem dL_law_1768 : decode cL_law 1768 = .ok (.istore 6, 2) := dc_54 (a0 := 6) aL_law_1768
theorem dL_law_1770 : decode cL_law 1770 = .ok (.goto 296, 3) := dc_167 (a0 := 1) (b0 := 40) aL_law_1770 (by decide)
theorem dL_law_1773 : decode cL_law 1773 = .ok (.aload_n 1, 1) := dc_43 aL_law_1773
theorem dL_law_1774 : decode cL_law 1774 = .ok (.aload_n 0, 1) := dc_42 aL_law_1774
theorem dL_law_1775 : decode cL_law 1775 = .ok (.iload 4, 2) := dc_21 (a0 := 4) aL_law_1775
theorem dL_law_1777 : decode cL_law 1777 = .ok (.iconst 1, 1) := dc_4 aL_law_1777
theorem dL_law_1778 : decode cL_law 1778 = .ok (.iadd, 1) := dc_96 aL_law_1778
theorem dL_law_1779 : decode cL_law 1779 = .ok (.iaload, 1) := dc_46 aL_law_1779
theorem dL_law_1780 : decode cL_law 1780 = .ok (.aload_n 0, 1) := dc_42 aL_law_1780
theorem dL_law_1781 : decode cL_law 1781 = .ok (.iload 4, 2) := dc_21 (a0 := 4) aL_law_1781
theorem dL_law_1783 : decode cL_law 1783 = .ok (.iconst 2, 1) := dc_5 aL_law_1783
theorem dL_law_1784 : decode cL_law 1784 = .ok (.iadd, 1) := dc_96 aL_law_1784
theorem dL_law_1785 : decode cL_law 1785 = .ok (.iaload, 1) := dc_46 aL_law_1785
theorem dL_law_1786 : decode cL_law 1786 = .ok (.aload_n 0, 1) := dc_42 aL_law_1786
theorem dL_law_1787 : decode cL_law 1787 = .ok (.iload 4, 2) := dc_21 (a0 := 4) aL_law_1787
theorem dL_law_1789 : decode cL_law 1789 = .ok (.iconst 3, 1) := dc_6 aL_law_1789
theorem dL_law_1790 : decode cL_law 1790 = .ok (.iadd, 1) := dc_96 aL_law_1790
theorem dL_law_1791 : decode cL_law 1791 = .ok (.iaload, 1) := dc_46 aL_law_1791
theorem dL_law_1792 : decode cL_law 1792 = .ok (.aload_n 3, 1) := dc_45 aL_law_1792
theorem dL_law_1793 : decode cL_law 1793 = .ok (.invokestatic 243, 3) := dc_184 (a0 := 0) (b0 := 243) aL_law_1793
theorem dL_law_1796 : decode cL_law 1796 = .ok (.istore 5, 2) := dc_54 (a0 := 5) aL_law_1796
theorem dL_law_1798 : decode cL_law 1798 = .ok (.aload_n 2, 1) := dc_44 aL_law_1798
theorem dL_law_1799 : decode cL_law 1799 = .ok (.aload_n 0, 1) := dc_42 aL_law_1799
theorem dL_law_1800 : decode cL_law 1800 = .ok (.iload 4, 2) := dc_21 (a0 := 4) aL_law_1800
theorem dL_law_1802 : decode cL_law 1802 = .ok (.iconst 1, 1) := dc_4 aL_law_1802
theorem dL_law_1803 : decode cL_law 1803 = .ok (.iadd, 1) := dc_96 aL_law_1803
theorem dL_law_1804 : decode cL_law 1804 = .ok (.iaload, 1) := dc_46 aL_law_1804
theorem dL_law_1805 : decode cL_law 1805 = .ok (.aload_n 0, 1) := dc_42 aL_law_1805
theorem dL_law_1806 : decode cL_law 1806 = .ok (.iload 4, 2) := dc_21 (a0 := 4) aL_law_1806
theorem dL_law_1808 : decode cL_law 1808 = .ok (.iconst 2, 1) := dc_5 aL_law_1808
theorem dL_law_1809 : decode cL_law 1809 = .ok (.iadd, 1) := dc_96 aL_law_1809
theorem dL_law_1810 : decode cL_law 1810 = .ok (.iaload, 1) := dc_46 aL_law_1810
theorem dL_law_1811 : decode cL_law 1811 = .ok (.aload_n 0, 1) := dc_42 aL_law_1811
theorem dL_law_1812 : decode cL_law 1812 = .ok (.iload 4, 2) := dc_21 (a0 := 4) aL_law_1812
theorem dL_law_1814 : decode cL_law 1814 = .ok (.iconst 3, 1) := dc_6 aL_law_1814
theorem dL_law_1815 : decode cL_law 1815 = .ok (.iadd, 1) := dc_96 aL_law_1815
theorem dL_law_1816 : decode cL_law 1816 = .ok (.iaload, 1) := dc_46 aL_law_1816
theorem dL_law_1817 : decode cL_law 1817 = .ok (.invokevirtual 245, 3) := dc_182 (a0 := 0) (b0 := 245) aL_law_1817
theorem dL_law_1820 : decode cL_law 1820 = .ok (.istore 6, 2) := dc_54 (a0 := 6) aL_law_1820
theorem dL_law_1822 : decode cL_law 1822 = .ok (.goto 244, 3) := dc_167 (a0 := 0) (b0 := 244) aL_law_1822 (by decide)
theorem dL_law_1825 : decode cL_law 1825 = .ok (.aload_n 1, 1) := dc_43 aL_law_1825
theorem dL_law_1826 : decode cL_law 1826 = .ok (.aload_n 0, 1) := dc_42 aL_law_1826
theorem dL_law_1827 : decode cL_law 1827 = .ok (.iload 4, 2) := dc_21 (a0 := 4) aL_law_1827
theorem dL_law_1829 : decode cL_law 1829 = .ok (.iconst 1, 1) := dc_4 aL_law_1829
theorem dL_law_1830 : decode cL_law 1830 = .ok (.iadd, 1) := dc_96 aL_law_1830
theorem dL_law_1831 : decode cL_law 1831 = .ok (.iaload, 1) := dc_46 aL_law_1831
theorem dL_law_1832 : decode cL_law 1832 = .ok (.aload_n 0, 1) := dc_42 aL_law_1832
theorem dL_law_1833 : decode cL_law 1833 = .ok (.iload 4, 2) := dc_21 (a0 := 4) aL_law_1833
theorem dL_law_1835 : decode cL_law 1835 = .ok (.iconst 2, 1) := dc_5 aL_law_1835
theorem dL_law_1836 : decode cL_law 1836 = .ok (.iadd, 1) := dc_96 aL_law_1836
theorem dL_law_1837 : decode cL_law 1837 = .ok (.iaload, 1) := dc_46 aL_law_1837
theorem dL_law_1838 : decode cL_law 1838 = .ok (.aload_n 3, 1) := dc_45 aL_law_1838
theorem dL_law_1839 : decode cL_law 1839 = .ok (.invokestatic 246, 3) := dc_184 (a0 := 0) (b0 := 246) aL_law_1839
theorem dL_law_1842 : decode cL_law 1842 = .ok (.istore 5, 2) := dc_54 (a0 := 5) aL_law_1842
theorem dL_law_1844 : decode cL_law 1844 = .ok (.aload_n 2, 1) := dc_44 aL_law_1844
theorem dL_law_1845 : decode cL_law 1845 = .ok (.aload_n 0, 1) := dc_42 aL_law_1845
theorem dL_law_1846 : decode cL_law 1846 = .ok (.iload 4, 2) := dc_21 (a0 := 4) aL_law_1846
theorem dL_law_1848 : decode cL_law 1848 = .ok (.iconst 1, 1) := dc_4 aL_law_1848
theorem dL_law_1849 : decode cL_law 1849 = .ok (.iadd, 1) := dc_96 aL_law_1849
theorem dL_law_1850 : decode cL_law 1850 = .ok (.iaload, 1) := dc_46 aL_law_1850
theorem dL_law_1851 : decode cL_law 1851 = .ok (.aload_n 0, 1) := dc_42 aL_law_1851
theorem dL_law_1852 : decode cL_law 1852 = .ok (.iload 4, 2) := dc_21 (a0 := 4) aL_law_1852
theorem dL_law_1854 : decode cL_law 1854 = .ok (.iconst 2, 1) := dc_5 aL_law_1854
theorem dL_law_1855 : decode cL_law 1855 = .ok (.iadd, 1) := dc_96 aL_law_1855
theorem dL_law_1856 : decode cL_law 1856 = .ok (.iaload, 1) := dc_46 aL_law_1856
theorem dL_law_1857 : decode cL_law 1857 = .ok (.invokevirtual 248, 3) := dc_182 (a0 := 0) (b0 := 248) aL_law_1857
theorem dL_law_1860 : decode cL_law 1860 = .ok (.istore 6, 2) := dc_54 (a0 := 6) aL_law_1860
theorem dL_law_1862 : decode cL_law 1862 = .ok (.goto 204, 3) := dc_167 (a0 := 0) (b0 := 204) aL_law_1862 (by decide)
theorem dL_law_1865 : decode cL_law 1865 = .ok (.aload_n 1, 1) := dc_43 aL_law_1865
theorem dL_law_1866 : decode cL_law 1866 = .ok (.invokevirtual 249, 3) := dc_182 (a0 := 0) (b0 := 249) aL_law_1866
theorem dL_law_1869 : decode cL_law 1869 = .ok (.pop, 1) := dc_87 aL_law_1869
theorem dL_law_1870 : decode cL_law 1870 = .ok (.aload_n 2, 1) := dc_44 aL_law_1870
theorem dL_law_1871 : decode cL_law 1871 = .ok (.invokevirtual 252, 3) := dc_182 (a0 := 0) (b0 := 252) aL_law_1871
theorem dL_law_1874 : decode cL_law 1874 = .ok (.pop, 1) := dc_87 aL_law_1874
theorem dL_law_1875 : decode cL_law 1875 = .ok (.goto 191, 3) := dc_167 (a0 := 0) (b0 := 191) aL_law_1875 (by decide)
theorem dL_law_1878 : decode cL_law 1878 = .ok (.aload_n 1, 1) := dc_43 aL_law_1878
theorem dL_law_1879 : decode cL_law 1879 = .ok (.aload_n 0, 1) := dc_42 aL_law_1879
theorem dL_law_1880 : decode cL_law 1880 = .ok (.iload 4, 2) := dc_21 (a0 := 4) aL_law_1880
theorem dL_law_1882 : decode cL_law 1882 = .ok (.iconst 1, 1) := dc_4 aL_law_1882
theorem dL_law_1883 : decode cL_law 1883 = .ok (.iadd, 1) := dc_96 aL_law_1883
theorem dL_law_1884 : decode cL_law 1884 = .ok (.iaload, 1) := dc_46 aL_law_1884
theorem dL_law_1885 : decode cL_law 1885 = .ok (.aload_n 3, 1) := dc_45 aL_law_1885
theorem dL_law_1886 : decode cL_law 1886 = .ok (.invokestatic 253, 3) := dc_184 (a0 := 0) (b0 := 253) aL_law_1886
theorem dL_law_1889 : decode cL_law 1889 = .ok (.istore 5, 2) := dc_54 (a0 := 5) aL_law_1889
theorem dL_law_1891 : decode cL_law 1891 = .ok (.aload_n 2, 1) := dc_44 aL_law_1891
theorem dL_law_1892 : decode cL_law 1892 = .ok (.aload_n 0, 1) := dc_42 aL_law_1892
theorem dL_law_1893 : decode cL_law 1893 = .ok (.iload 4, 2) := dc_21 (a0 := 4) aL_law_1893
theorem dL_law_1895 : decode cL_law 1895 = .ok (.iconst 1, 1) := dc_4 aL_law_1895
theorem dL_law_1896 : decode cL_law 1896 = .ok (.iadd, 1) := dc_96 aL_law_1896
theorem dL_law_1897 : decode cL_law 1897 = .ok (.iaload, 1) := dc_46 aL_law_1897
theorem dL_law_1898 : decode cL_law 1898 = .ok (.invokevirtual 255, 3) := dc_182 (a0 := 0) (b0 := 255) aL_law_1898
theorem dL_law_1901 : decode cL_law 1901 = .ok (.istore 6, 2) := dc_54 (a0 := 6) aL_law_1901
theorem dL_law_1903 : decode cL_law 1903 = .ok (.goto 163, 3) := dc_167 (a0 := 0) (b0 := 163) aL_law_1903 (by decide)
theorem dL_law_1906 : decode cL_law 1906 = .ok (.aload_n 1, 1) := dc_43 aL_law_1906
theorem dL_law_1907 : decode cL_law 1907 = .ok (.aload_n 0, 1) := dc_42 aL_law_1907
theorem dL_law_1908 : decode cL_law 1908 = .ok (.iload 4, 2) := dc_21 (a0 := 4) aL_law_1908
theorem dL_law_1910 : decode cL_law 1910 = .ok (.iconst 1, 1) := dc_4 aL_law_1910
theorem dL_law_1911 : decode cL_law 1911 = .ok (.iadd, 1) := dc_96 aL_law_1911
theorem dL_law_1912 : decode cL_law 1912 = .ok (.iaload, 1) := dc_46 aL_law_1912
theorem dL_law_1913 : decode cL_law 1913 = .ok (.aload_n 0, 1) := dc_42 aL_law_1913
theorem dL_law_1914 : decode cL_law 1914 = .ok (.iload 4, 2) := dc_21 (a0 := 4) aL_law_1914
theorem dL_law_1916 : decode cL_law 1916 = .ok (.iconst 2, 1) := dc_5 aL_law_1916
theorem dL_law_1917 : decode cL_law 1917 = .ok (.iadd, 1) := dc_96 aL_law_1917
theorem dL_law_1918 : decode cL_law 1918 = .ok (.iaload, 1) := dc_46 aL_law_1918
theorem dL_law_1919 : decode cL_law 1919 = .ok (.aload_n 0, 1) := dc_42 aL_law_1919
theorem dL_law_1920 : decode cL_law 1920 = .ok (.iload 4, 2) := dc_21 (a0 := 4) aL_law_1920
theorem dL_law_1922 : decode cL_law 1922 = .ok (.iconst 3, 1) := dc_6 aL_law_1922
theorem dL_law_1923 : decode cL_law 1923 = .ok (.iadd, 1) := dc_96 aL_law_1923
theorem dL_law_1924 : decode cL_law 1924 = .ok (.iaload, 1) := dc_46 aL_law_1924
theorem dL_law_1925 : decode cL_law 1925 = .ok (.aload_n 3, 1) := dc_45 aL_law_1925
theorem dL_law_1926 : decode cL_law 1926 = .ok (.invokestatic 256, 3) := dc_184 (a0 := 1) (b0 := 0) aL_law_1926
theorem dL_law_1929 : decode cL_law 1929 = .ok (.istore 5, 2) := dc_54 (a0 := 5) aL_law_1929
theorem dL_law_1931 : decode cL_law 1931 = .ok (.aload_n 2, 1) := dc_44 aL_law_1931
theorem dL_law_1932 : decode cL_law 1932 = .ok (.aload_n 0, 1) := dc_42 aL_law_1932
theorem dL_law_1933 : decode cL_law 1933 = .ok (.iload 4, 2) := dc_21 (a0 := 4) aL_law_1933
theorem dL_law_1935 : decode cL_law 1935 = .ok (.iconst 1, 1) := dc_4 aL_law_1935
theorem dL_law_1936 : decode cL_law 1936 = .ok (.iadd, 1) := dc_96 aL_law_1936
theorem dL_law_1937 : decode cL_law 1937 = .ok (.iaload, 1) := dc_46 aL_law_1937
theorem dL_law_1938 : decode cL_law 1938 = .ok (.aload_n 0, 1) := dc_42 aL_law_1938
theorem dL_law_1939 : decode cL_law 1939 = .ok (.iload 4, 2) := dc_21 (a0 := 4) aL_law_1939
theorem dL_law_1941 : decode cL_law 1941 = .ok (.iconst 2, 1) := dc_5 aL_law_1941
theorem dL_law_1942 : decode cL_law 1942 = .ok (.iadd, 1) := dc_96 aL_law_1942
theorem dL_law_1943 : decode cL_law 1943 = .ok (.iaload, 1) := dc_46 aL_law_1943
theorem dL_law_1944 : decode cL_law 1944 = .ok (.aload_n 0, 1) := dc_42 aL_law_1944
theorem dL_law_1945 : decode cL_law 1945 = .ok (.iload 4, 2) := dc_21 (a0 := 4) aL_law_1945
theorem dL_law_1947 : decode cL_law 1947 = .ok (.iconst 3, 1) := dc_6 aL_law_1947
theorem dL_law_1948 : decode cL_law 1948 = .ok (.iadd, 1) := dc_96 aL_law_1948
theorem dL_law_1949 : decode cL_law 1949 = .ok (.iaload, 1) := dc_46 aL_law_1949
theorem dL_law_1950 : decode cL_law 1950 = .ok (.invokevirtual 258, 3) := dc_182 (a0 := 1) (b0 := 2) aL_law_1950
theorem dL_law_1953 : decode cL_law 1953 = .ok (.istore 6, 2) := dc_54 (a0 := 6) aL_law_1953
theorem dL_law_1955 : decode cL_law 1955 = .ok (.goto 111, 3) := dc_167 (a0 := 0) (b0 := 111) aL_law_1955 (by decide)
theorem dL_law_1958 : decode cL_law 1958 = .ok (.aload_n 1, 1) := dc_43 aL_law_1958
theorem dL_law_1959 : decode cL_law 1959 = .ok (.aload_n 0, 1) := dc_42 aL_law_1959
theorem dL_law_1960 : decode cL_law 1960 = .ok (.iload 4, 2) := dc_21 (a0 := 4) aL_law_1960
theorem dL_law_1962 : decode cL_law 1962 = .ok (.iconst 1, 1) := dc_4 aL_law_1962
theorem dL_law_1963 : decode cL_law 1963 = .ok (.iadd, 1) := dc_96 aL_law_1963
theorem dL_law_1964 : decode cL_law 1964 = .ok (.iaload, 1) := dc_46 aL_law_1964
theorem dL_law_1965 : decode cL_law 1965 = .ok (.aload_n 0, 1) := dc_42 aL_law_1965
theorem dL_law_1966 : decode cL_law 1966 = .ok (.iload 4, 2) := dc_21 (a0 := 4) aL_law_1966
theorem dL_law_1968 : decode cL_law 1968 = .ok (.iconst 2, 1) := dc_5 aL_law_1968
theorem dL_law_1969 : decode cL_law 1969 = .ok (.iadd, 1) := dc_96 aL_law_1969
theorem dL_law_1970 : decode cL_law 1970 = .ok (.iaload, 1) := dc_46 aL_law_1970
theorem dL_law_1971 : decode cL_law 1971 = .ok (.aload_n 3, 1) := dc_45 aL_law_1971
theorem dL_law_1972 : decode cL_law 1972 = .ok (.invokestatic 259, 3) := dc_184 (a0 := 1) (b0 := 3) aL_law_1972
theorem dL_law_1975 : decode cL_law 1975 = .ok (.istore 5, 2) := dc_54 (a0 := 5) aL_law_1975
theorem dL_law_1977 : decode cL_law 1977 = .ok (.aload_n 2, 1) := dc_44 aL_law_1977
theorem dL_law_1978 : decode cL_law 1978 = .ok (.aload_n 0, 1) := dc_42 aL_law_1978
theorem dL_law_1979 : decode cL_law 1979 = .ok (.iload 4, 2) := dc_21 (a0 := 4) aL_law_1979
theorem dL_law_1981 : decode cL_law 1981 = .ok (.iconst 1, 1) := dc_4 aL_law_1981
theorem dL_law_1982 : decode cL_law 1982 = .ok (.iadd, 1) := dc_96 aL_law_1982
theorem dL_law_1983 : decode cL_law 1983 = .ok (.iaload, 1) := dc_46 aL_law_1983
theorem dL_law_1984 : decode cL_law 1984 = .ok (.aload_n 0, 1) := dc_42 aL_law_1984
theorem dL_law_1985 : decode cL_law 1985 = .ok (.iload 4, 2) := dc_21 (a0 := 4) aL_law_1985
theorem dL_law_1987 : decode cL_law 1987 = .ok (.iconst 2, 1) := dc_5 aL_law_1987
theorem dL_law_1988 : decode cL_law 1988 = .ok (.iadd, 1) := dc_96 aL_law_1988
theorem dL_law_1989 : decode cL_law 1989 = .ok (.iaload, 1) := dc_46 aL_law_1989
theorem dL_law_1990 : decode cL_law 1990 = .ok (.invokevirtual 261, 3) := dc_182 (a0 := 1) (b0 := 5) aL_law_1990
theorem dL_law_1993 : decode cL_law 1993 = .ok (.istore 6, 2) := dc_54 (a0 := 6) aL_law_1993
theorem dL_law_1995 : decode cL_law 1995 = .ok (.goto 71, 3) := dc_167 (a0 := 0) (b0 := 71) aL_law_1995 (by decide)
theorem dL_law_1998 : decode cL_law 1998 = .ok (.aload_n 1, 1) := dc_43 aL_law_1998
theorem dL_law_1999 : decode cL_law 1999 = .ok (.aload_n 0, 1) := dc_42 aL_law_1999
theorem dL_law_2000 : decode cL_law 2000 = .ok (.iload 4, 2) := dc_21 (a0 := 4) aL_law_2000
theorem dL_law_2002 : decode cL_law 2002 = .ok (.iconst 1, 1) := dc_4 aL_law_2002
theorem dL_law_2003 : decode cL_law 2003 = .ok (.iadd, 1) := dc_96 aL_law_2003
theorem dL_law_2004 : decode cL_law 2004 = .ok (.iaload, 1) := dc_46 aL_law_2004
theorem dL_law_2005 : decode cL_law 2005 = .ok (.aload_n 3, 1) := dc_45 aL_law_2005
theorem dL_law_2006 : decode cL_law 2006 = .ok (.invokestatic 262, 3) := dc_184 (a0 := 1) (b0 := 6) aL_law_2006
theorem dL_law_2009 : decode cL_law 2009 = .ok (.istore 5, 2) := dc_54 (a0 := 5) aL_law_2009
theorem dL_law_2011 : decode cL_law 2011 = .ok (.aload_n 2, 1) := dc_44 aL_law_2011
theorem dL_law_2012 : decode cL_law 2012 = .ok (.aload_n 0, 1) := dc_42 aL_law_2012
theorem dL_law_2013 : decode cL_law 2013 = .ok (.iload 4, 2) := dc_21 (a0 := 4) aL_law_2013
theorem dL_law_2015 : decode cL_law 2015 = .ok (.iconst 1, 1) := dc_4 aL_law_2015
theorem dL_law_2016 : decode cL_law 2016 = .ok (.iadd, 1) := dc_96 aL_law_2016
theorem dL_law_2017 : decode cL_law 2017 = .ok (.iaload, 1) := dc_46 aL_law_2017
theorem dL_law_2018 : decode cL_law 2018 = .ok (.invokevirtual 264, 3) := dc_182 (a0 := 1) (b0 := 8) aL_law_2018
theorem dL_law_2021 : decode cL_law 2021 = .ok (.istore 6, 2) := dc_54 (a0 := 6) aL_law_2021
theorem dL_law_2023 : decode cL_law 2023 = .ok (.goto 43, 3) := dc_167 (a0 := 0) (b0 := 43) aL_law_2023 (by decide)
theorem dL_law_2026 : decode cL_law 2026 = .ok (.aload_n 1, 1) := dc_43 aL_law_2026
theorem dL_law_2027 : decode cL_law 2027 = .ok (.aload_n 0, 1) := dc_42 aL_law_2027
theorem dL_law_2028 : decode cL_law 2028 = .ok (.iload 4, 2) := dc_21 (a0 := 4) aL_law_2028
theorem dL_law_2030 : decode cL_law 2030 = .ok (.iconst 1, 1) := dc_4 aL_law_2030
theorem dL_law_2031 : decode cL_law 2031 = .ok (.iadd, 1) := dc_96 aL_law_2031
theorem dL_law_2032 : decode cL_law 2032 = .ok (.iaload, 1) := dc_46 aL_law_2032
theorem dL_law_2033 : decode cL_law 2033 = .ok (.aload_n 0, 1) := dc_42 aL_law_2033
theorem dL_law_2034 : decode cL_law 2034 = .ok (.iload 4, 2) := dc_21 (a0 := 4) aL_law_2034
theorem dL_law_2036 : decode cL_law 2036 = .ok (.iconst 2, 1) := dc_5 aL_law_2036
theorem dL_law_2037 : decode cL_law 2037 = .ok (.iadd, 1) := dc_96 aL_law_2037
theorem dL_law_2038 : decode cL_law 2038 = .ok (.iaload, 1) := dc_46 aL_law_2038
theorem dL_law_2039 : decode cL_law 2039 = .ok (.aload_n 3, 1) := dc_45 aL_law_2039
theorem dL_law_2040 : decode cL_law 2040 = .ok (.invokestatic 265, 3) := dc_184 (a0 := 1) (b0 := 9) aL_law_2040
theorem dL_law_2043 : decode cL_law 2043 = .ok (.istore 5, 2) := dc_54 (a0 := 5) aL_law_2043
theorem dL_law_2045 : decode cL_law 2045 = .ok (.aload_n 2, 1) := dc_44 aL_law_2045
theorem dL_law_2046 : decode cL_law 2046 = .ok (.aload_n 0, 1) := dc_42 aL_law_2046
theorem dL_law_2047 : decode cL_law 2047 = .ok (.iload 4, 2) := dc_21 (a0 := 4) aL_law_2047
theorem dL_law_2049 : decode cL_law 2049 = .ok (.iconst 1, 1) := dc_4 aL_law_2049
theorem dL_law_2050 : decode cL_law 2050 = .ok (.iadd, 1) := dc_96 aL_law_2050
theorem dL_law_2051 : decode cL_law 2051 = .ok (.iaload, 1) := dc_46 aL_law_2051
theorem dL_law_2052 : decode cL_law 2052 = .ok (.aload_n 0, 1) := dc_42 aL_law_2052
theorem dL_law_2053 : decode cL_law 2053 = .ok (.iload 4, 2) := dc_21 (a0 := 4) aL_law_2053
theorem dL_law_2055 : decode cL_law 2055 = .ok (.iconst 2, 1) := dc_5 aL_law_2055
theorem dL_law_2056 : decode cL_law 2056 = .ok (.iadd, 1) := dc_96 aL_law_2056
theorem dL_law_2057 : decode cL_law 2057 = .ok (.iaload, 1) := dc_46 aL_law_2057
theorem dL_law_2058 : decode cL_law 2058 = .ok (.invokevirtual 267, 3) := dc_182 (a0 := 1) (b0 := 11) aL_law_2058
theorem dL_law_2061 : decode cL_law 2061 = .ok (.istore 6, 2) := dc_54 (a0 := 6) aL_law_2061
theorem dL_law_2063 : decode cL_law 2063 = .ok (.goto 3, 3) := dc_167 (a0 := 0) (b0 := 3) aL_law_2063 (by decide)
theorem dL_law_2066 : decode cL_law 2066 = .ok (.iinc 4 6, 3) := dc_132 (a0 := 4) (a1 := 6) aL_law_2066 (by decide)
theorem dL_law_2069 : decode cL_law 2069 = .ok (.goto (-2046), 3) := dc_167 (a0 := 248) (b0 := 2) aL_law_2069 (by decide)
theorem dL_law_2072 : decode cL_law 2072 = .ok (.iconst 1, 1) := dc_4 aL_law_2072
theorem dL_law_2073 : decode cL_law 2073 = .ok (.ireturn, 1) := dc_172 aL_law_2073
